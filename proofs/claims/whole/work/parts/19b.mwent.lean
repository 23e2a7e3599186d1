theorem dX12_went_0 : decode cX12_went 0 = .ok (.aload_n 0, 1) := by decide +kernel
theorem dX12_went_1 : decode cX12_went 1 = .ok (.getfield 186, 3) := by decide +kernel
theorem dX12_went_4 : decode cX12_went 4 = .ok (.ifCond .ne 6, 3) := by decide +kernel
theorem dX12_went_10 : decode cX12_went 10 = .ok (.iload_n 1, 1) := by decide +kernel
set_option maxRecDepth 20000 in
theorem ggX12_went_X12_isRow : GoodIn wsX12_went wsX12_isRow := goodIn_r _ [14, 15, 16, 17, 13, 18] (by decide +kernel) (by decide +kernel)
set_option maxRecDepth 20000 in
theorem gX12_went_X12_isRow : GoodIn wsX12_went (va_wsS RX12 58 yX12_isRow wsX12_isRow) := goodIn_app (goodIn_of _ (by decide +kernel)) ggX12_went_X12_isRow
theorem dX12_went_11 : decode cX12_went 11 = .ok (.invokestatic 58, 3) := by decide +kernel
theorem dX12_went_14 : decode cX12_went 14 = .ok (.ifCond .eq 15, 3) := by decide +kernel
theorem dX12_went_29 : decode cX12_went 29 = .ok (.ldc 64, 2) := by decide +kernel
theorem dX12_went_31 : decode cX12_went 31 = .ok (.ireturn, 1) := by decide +kernel
theorem dX12_went_17 : decode cX12_went 17 = .ok (.iload_n 3, 1) := by decide +kernel
theorem dX12_went_18 : decode cX12_went 18 = .ok (.i2l, 1) := by decide +kernel
theorem dX12_went_19 : decode cX12_went 19 = .ok (.lconst 0, 1) := by decide +kernel
theorem dX12_went_20 : decode cX12_went 20 = .ok (.ldc2_w 62, 3) := by decide +kernel
set_option maxRecDepth 20000 in
theorem ggX12_went_X12_in : GoodIn wsX12_went wsX12_in := goodIn_r _ [18] (by decide +kernel) (by decide +kernel)
set_option maxRecDepth 20000 in
theorem gX12_went_X12_in : GoodIn wsX12_went (va_wsS RX12 54 yX12_in wsX12_in) := goodIn_app (goodIn_of _ (by decide +kernel)) ggX12_went_X12_in
theorem dX12_went_23 : decode cX12_went 23 = .ok (.invokestatic 54, 3) := by decide +kernel
theorem dX12_went_26 : decode cX12_went 26 = .ok (.ifCond .ne 6, 3) := by decide +kernel
theorem dX12_went_32 : decode cX12_went 32 = .ok (.aload_n 0, 1) := by decide +kernel
theorem dX12_went_33 : decode cX12_went 33 = .ok (.getfield 13, 3) := by decide +kernel
theorem dX12_went_36 : decode cX12_went 36 = .ok (.iload_n 1, 1) := by decide +kernel
theorem dX12_went_37 : decode cX12_went 37 = .ok (.iaload, 1) := by decide +kernel
theorem dX12_went_38 : decode cX12_went 38 = .ok (.ifCond .ge 9, 3) := by decide +kernel
theorem dX12_went_47 : decode cX12_went 47 = .ok (.iload_n 2, 1) := by decide +kernel
theorem dX12_went_48 : decode cX12_went 48 = .ok (.ifCond .lt 16, 3) := by decide +kernel
theorem dX12_went_64 : decode cX12_went 64 = .ok (.aload_n 0, 1) := by decide +kernel
theorem dX12_went_65 : decode cX12_went 65 = .ok (.iconst 2, 1) := by decide +kernel
set_option maxRecDepth 20000 in
theorem ggX12_went_X12_found : GoodIn wsX12_went wsX12_found := goodIn_r _ [22, 23, 24, 54, 55, 56, 57, 58, 59, 60, 61, 62, 63, 64, 65, 66, 67, 68, 69, 70, 71, 72, 73, 74, 75, 76, 77, 78, 79] (by decide +kernel) (by decide +kernel)
set_option maxRecDepth 20000 in
theorem gX12_went_X12_found : GoodIn wsX12_went (wsV RX12 65 RX12 yX12_found wsX12_found) := goodIn_app (goodIn_of _ (by decide +kernel)) ggX12_went_X12_found
theorem dX12_went_66 : decode cX12_went 66 = .ok (.invokevirtual 65, 3) := by decide +kernel
theorem dX12_went_69 : decode cX12_went 69 = .ok (.ireturn, 1) := by decide +kernel
theorem dX12_went_51 : decode cX12_went 51 = .ok (.iload_n 2, 1) := by decide +kernel
theorem dX12_went_52 : decode cX12_went 52 = .ok (.aload_n 0, 1) := by decide +kernel
theorem dX12_went_53 : decode cX12_went 53 = .ok (.getfield 13, 3) := by decide +kernel
theorem dX12_went_56 : decode cX12_went 56 = .ok (.iload_n 1, 1) := by decide +kernel
theorem dX12_went_57 : decode cX12_went 57 = .ok (.iaload, 1) := by decide +kernel
theorem dX12_went_58 : decode cX12_went 58 = .ok (.bipush 8, 2) := by decide +kernel
theorem dX12_went_60 : decode cX12_went 60 = .ok (.isub, 1) := by decide +kernel
theorem dX12_went_61 : decode cX12_went 61 = .ok (.if_icmp .le 9, 3) := by decide +kernel
theorem dX12_went_70 : decode cX12_went 70 = .ok (.bipush 40, 2) := by decide +kernel
theorem dX12_went_72 : decode cX12_went 72 = .ok (.iload_n 1, 1) := by decide +kernel
theorem dX12_went_73 : decode cX12_went 73 = .ok (.imul, 1) := by decide +kernel
theorem dX12_went_74 : decode cX12_went 74 = .ok (.iload_n 2, 1) := by decide +kernel
theorem dX12_went_75 : decode cX12_went 75 = .ok (.iadd, 1) := by decide +kernel
theorem dX12_went_76 : decode cX12_went 76 = .ok (.istore 4, 2) := by decide +kernel
theorem dX12_went_78 : decode cX12_went 78 = .ok (.iconst 0, 1) := by decide +kernel
theorem dX12_went_79 : decode cX12_went 79 = .ok (.istore 5, 2) := by decide +kernel
theorem dX12_went_81 : decode cX12_went 81 = .ok (.iload 5, 2) := by decide +kernel
theorem dX12_went_83 : decode cX12_went 83 = .ok (.bipush 8, 2) := by decide +kernel
theorem dX12_went_85 : decode cX12_went 85 = .ok (.if_icmp .ge 33, 3) := by decide +kernel
theorem dX12_went_118 : decode cX12_went 118 = .ok (.iconst 0, 1) := by decide +kernel
theorem dX12_went_119 : decode cX12_went 119 = .ok (.istore 5, 2) := by decide +kernel
theorem dX12_went_121 : decode cX12_went 121 = .ok (.ldc 239, 2) := by decide +kernel
theorem dX12_went_123 : decode cX12_went 123 = .ok (.istore 6, 2) := by decide +kernel
theorem dX12_went_125 : decode cX12_went 125 = .ok (.iconst 0, 1) := by decide +kernel
theorem dX12_went_126 : decode cX12_went 126 = .ok (.istore 7, 2) := by decide +kernel
theorem dX12_went_128 : decode cX12_went 128 = .ok (.iload 7, 2) := by decide +kernel
theorem dX12_went_130 : decode cX12_went 130 = .ok (.aload_n 0, 1) := by decide +kernel
theorem dX12_went_131 : decode cX12_went 131 = .ok (.getfield 22, 3) := by decide +kernel
theorem dX12_went_134 : decode cX12_went 134 = .ok (.iconst 4, 1) := by decide +kernel
theorem dX12_went_135 : decode cX12_went 135 = .ok (.iaload, 1) := by decide +kernel
theorem dX12_went_136 : decode cX12_went 136 = .ok (.if_icmp .ge 102, 3) := by decide +kernel
theorem dX12_went_238 : decode cX12_went 238 = .ok (.aload_n 0, 1) := by decide +kernel
theorem dX12_went_239 : decode cX12_went 239 = .ok (.iload_n 3, 1) := by decide +kernel
theorem dX12_went_240 : decode cX12_went 240 = .ok (.ifCond .ne 8, 3) := by decide +kernel
theorem dX12_went_248 : decode cX12_went 248 = .ok (.iload_n 3, 1) := by decide +kernel
theorem dX12_went_249 : decode cX12_went 249 = .ok (.iconst 1, 1) := by decide +kernel
theorem dX12_went_250 : decode cX12_went 250 = .ok (.if_icmp .ne 8, 3) := by decide +kernel
theorem dX12_went_258 : decode cX12_went 258 = .ok (.aload_n 0, 1) := by decide +kernel
theorem dX12_went_259 : decode cX12_went 259 = .ok (.aload_n 0, 1) := by decide +kernel
theorem dX12_went_260 : decode cX12_went 260 = .ok (.getfield 22, 3) := by decide +kernel
theorem dX12_went_263 : decode cX12_went 263 = .ok (.iload 4, 2) := by decide +kernel
set_option maxRecDepth 20000 in
theorem ggX12_went_X12_isSo : GoodIn wsX12_went wsX12_isSo := goodIn_r _ [49, 6, 31, 32, 13, 33, 54, 55, 56, 57, 58, 59, 60, 61, 62, 63, 64, 65, 66, 67, 68, 69, 70, 71, 72, 73, 74, 75, 76, 77, 78, 79] (by decide +kernel) (by decide +kernel)
set_option maxRecDepth 20000 in
theorem gX12_went_X12_isSo : GoodIn wsX12_went (wsV RX12 253 RX12 yX12_isSo wsX12_isSo) := goodIn_app (goodIn_of _ (by decide +kernel)) ggX12_went_X12_isSo
theorem dX12_went_265 : decode cX12_went 265 = .ok (.invokevirtual 253, 3) := by decide +kernel
theorem dX12_went_268 : decode cX12_went 268 = .ok (.ifCond .eq 7, 3) := by decide +kernel
theorem dX12_went_275 : decode cX12_went 275 = .ok (.iconst 0, 1) := by decide +kernel
set_option maxRecDepth 20000 in
theorem ggX12_went_X12_well : GoodIn wsX12_went wsX12_well := goodIn_r _ [53, 23, 54, 55, 56, 57, 58, 59, 60, 61, 62, 63, 64, 65, 66, 67, 68, 69, 70, 71, 72, 73, 74, 75, 76, 77, 78, 79] (by decide +kernel) (by decide +kernel)
set_option maxRecDepth 20000 in
theorem gX12_went_X12_well : GoodIn wsX12_went (wsV RX12 69 RX12 yX12_well wsX12_well) := goodIn_app (goodIn_of _ (by decide +kernel)) ggX12_went_X12_well
theorem dX12_went_276 : decode cX12_went 276 = .ok (.invokevirtual 69, 3) := by decide +kernel
theorem dX12_went_279 : decode cX12_went 279 = .ok (.ireturn, 1) := by decide +kernel
theorem dX12_went_271 : decode cX12_went 271 = .ok (.iconst 1, 1) := by decide +kernel
theorem dX12_went_272 : decode cX12_went 272 = .ok (.goto 4, 3) := by decide +kernel
theorem dX12_went_253 : decode cX12_went 253 = .ok (.iload 6, 2) := by decide +kernel
theorem dX12_went_255 : decode cX12_went 255 = .ok (.goto 21, 3) := by decide +kernel
theorem dX12_went_243 : decode cX12_went 243 = .ok (.iload 5, 2) := by decide +kernel
theorem dX12_went_245 : decode cX12_went 245 = .ok (.goto 31, 3) := by decide +kernel
theorem dX12_went_139 : decode cX12_went 139 = .ok (.iconst 0, 1) := by decide +kernel
theorem dX12_went_140 : decode cX12_went 140 = .ok (.istore 8, 2) := by decide +kernel
theorem dX12_went_142 : decode cX12_went 142 = .ok (.iload 8, 2) := by decide +kernel
theorem dX12_went_144 : decode cX12_went 144 = .ok (.bipush 48, 2) := by decide +kernel
theorem dX12_went_146 : decode cX12_went 146 = .ok (.if_icmp .ge 86, 3) := by decide +kernel
theorem dX12_went_232 : decode cX12_went 232 = .ok (.iinc 7 1, 3) := by decide +kernel
theorem dX12_went_235 : decode cX12_went 235 = .ok (.goto (-107), 3) := by decide +kernel
theorem dX12_went_149 : decode cX12_went 149 = .ok (.aload_n 0, 1) := by decide +kernel
theorem dX12_went_150 : decode cX12_went 150 = .ok (.getfield 22, 3) := by decide +kernel
theorem dX12_went_153 : decode cX12_went 153 = .ok (.iload 7, 2) := by decide +kernel
theorem dX12_went_155 : decode cX12_went 155 = .ok (.iload 8, 2) := by decide +kernel
set_option maxRecDepth 20000 in
theorem ggX12_went_X12_mayCross : GoodIn wsX12_went wsX12_mayCross := goodIn_r _ [27, 28, 29, 13, 30, 31, 32, 33] (by decide +kernel) (by decide +kernel)
set_option maxRecDepth 20000 in
theorem gX12_went_X12_mayCross : GoodIn wsX12_went (va_wsS RX12 223 yX12_mayCross wsX12_mayCross) := goodIn_app (goodIn_of _ (by decide +kernel)) ggX12_went_X12_mayCross
theorem dX12_went_157 : decode cX12_went 157 = .ok (.invokestatic 223, 3) := by decide +kernel
theorem dX12_went_160 : decode cX12_went 160 = .ok (.ifCond .ne 6, 3) := by decide +kernel
theorem dX12_went_166 : decode cX12_went 166 = .ok (.aload_n 0, 1) := by decide +kernel
theorem dX12_went_167 : decode cX12_went 167 = .ok (.getfield 22, 3) := by decide +kernel
theorem dX12_went_170 : decode cX12_went 170 = .ok (.iconst 0, 1) := by decide +kernel
theorem dX12_went_171 : decode cX12_went 171 = .ok (.aload_n 0, 1) := by decide +kernel
theorem dX12_went_172 : decode cX12_went 172 = .ok (.getfield 44, 3) := by decide +kernel
theorem dX12_went_175 : decode cX12_went 175 = .ok (.iconst 0, 1) := by decide +kernel
set_option maxRecDepth 20000 in
theorem ggX12_went_X12_copies : GoodIn wsX12_went wsX12_copies := goodIn_r _ [36] (by decide +kernel) (by decide +kernel)
set_option maxRecDepth 20000 in
theorem gX12_went_X12_copies : GoodIn wsX12_went (va_wsS RX12 193 yX12_copies wsX12_copies) := goodIn_app (goodIn_of _ (by decide +kernel)) ggX12_went_X12_copies
theorem dX12_went_176 : decode cX12_went 176 = .ok (.invokestatic 193, 3) := by decide +kernel
theorem dX12_went_179 : decode cX12_went 179 = .ok (.aload_n 0, 1) := by decide +kernel
theorem dX12_went_180 : decode cX12_went 180 = .ok (.getfield 44, 3) := by decide +kernel
theorem dX12_went_183 : decode cX12_went 183 = .ok (.iload 7, 2) := by decide +kernel
theorem dX12_went_185 : decode cX12_went 185 = .ok (.iload 8, 2) := by decide +kernel
set_option maxRecDepth 20000 in
theorem ggX12_went_X12_crosses : GoodIn wsX12_went wsX12_crosses := goodIn_r _ [39, 40, 41, 13, 42, 43, 44, 45] (by decide +kernel) (by decide +kernel)
set_option maxRecDepth 20000 in
theorem gX12_went_X12_crosses : GoodIn wsX12_went (va_wsS RX12 231 yX12_crosses wsX12_crosses) := goodIn_app (goodIn_of _ (by decide +kernel)) ggX12_went_X12_crosses
theorem dX12_went_187 : decode cX12_went 187 = .ok (.invokestatic 231, 3) := by decide +kernel
theorem dX12_went_190 : decode cX12_went 190 = .ok (.aload_n 0, 1) := by decide +kernel
theorem dX12_went_191 : decode cX12_went 191 = .ok (.aload_n 0, 1) := by decide +kernel
theorem dX12_went_192 : decode cX12_went 192 = .ok (.getfield 44, 3) := by decide +kernel
theorem dX12_went_195 : decode cX12_went 195 = .ok (.iload 4, 2) := by decide +kernel
theorem dX12_went_197 : decode cX12_went 197 = .ok (.invokevirtual 253, 3) := by decide +kernel
theorem dX12_went_200 : decode cX12_went 200 = .ok (.ifCond .eq 26, 3) := by decide +kernel
theorem dX12_went_226 : decode cX12_went 226 = .ok (.iinc 8 1, 3) := by decide +kernel
theorem dX12_went_229 : decode cX12_went 229 = .ok (.goto (-87), 3) := by decide +kernel
theorem dX12_went_203 : decode cX12_went 203 = .ok (.iload 5, 2) := by decide +kernel
theorem dX12_went_205 : decode cX12_went 205 = .ok (.ifCond .ne 14, 3) := by decide +kernel
theorem dX12_went_219 : decode cX12_went 219 = .ok (.iload 6, 2) := by decide +kernel
theorem dX12_went_221 : decode cX12_went 221 = .ok (.istore 6, 2) := by decide +kernel
theorem dX12_went_223 : decode cX12_went 223 = .ok (.iinc 5 1, 3) := by decide +kernel
theorem dX12_went_208 : decode cX12_went 208 = .ok (.bipush 48, 2) := by decide +kernel
theorem dX12_went_210 : decode cX12_went 210 = .ok (.iload 7, 2) := by decide +kernel
theorem dX12_went_212 : decode cX12_went 212 = .ok (.imul, 1) := by decide +kernel
theorem dX12_went_213 : decode cX12_went 213 = .ok (.iload 8, 2) := by decide +kernel
theorem dX12_went_215 : decode cX12_went 215 = .ok (.iadd, 1) := by decide +kernel
theorem dX12_went_216 : decode cX12_went 216 = .ok (.goto 5, 3) := by decide +kernel
theorem dX12_went_163 : decode cX12_went 163 = .ok (.goto 63, 3) := by decide +kernel
theorem dX12_went_88 : decode cX12_went 88 = .ok (.aload_n 0, 1) := by decide +kernel
theorem dX12_went_89 : decode cX12_went 89 = .ok (.getfield 16, 3) := by decide +kernel
theorem dX12_went_92 : decode cX12_went 92 = .ok (.iload 4, 2) := by decide +kernel
theorem dX12_went_94 : decode cX12_went 94 = .ok (.iload 5, 2) := by decide +kernel
theorem dX12_went_96 : decode cX12_went 96 = .ok (.iadd, 1) := by decide +kernel
theorem dX12_went_97 : decode cX12_went 97 = .ok (.iaload, 1) := by decide +kernel
theorem dX12_went_98 : decode cX12_went 98 = .ok (.i2l, 1) := by decide +kernel
theorem dX12_went_99 : decode cX12_went 99 = .ok (.lconst 0, 1) := by decide +kernel
theorem dX12_went_100 : decode cX12_went 100 = .ok (.ldc2_w 251, 3) := by decide +kernel
theorem dX12_went_103 : decode cX12_went 103 = .ok (.invokestatic 54, 3) := by decide +kernel
theorem dX12_went_106 : decode cX12_went 106 = .ok (.ifCond .ne 6, 3) := by decide +kernel
theorem dX12_went_112 : decode cX12_went 112 = .ok (.iinc 5 1, 3) := by decide +kernel
theorem dX12_went_115 : decode cX12_went 115 = .ok (.goto (-34), 3) := by decide +kernel
theorem dX12_went_109 : decode cX12_went 109 = .ok (.ldc 64, 2) := by decide +kernel
theorem dX12_went_111 : decode cX12_went 111 = .ok (.ireturn, 1) := by decide +kernel
theorem dX12_went_41 : decode cX12_went 41 = .ok (.aload_n 0, 1) := by decide +kernel
theorem dX12_went_42 : decode cX12_went 42 = .ok (.iconst 1, 1) := by decide +kernel
theorem dX12_went_43 : decode cX12_went 43 = .ok (.invokevirtual 65, 3) := by decide +kernel
theorem dX12_went_46 : decode cX12_went 46 = .ok (.ireturn, 1) := by decide +kernel
theorem dX12_went_7 : decode cX12_went 7 = .ok (.ldc 227, 2) := by decide +kernel
theorem dX12_went_9 : decode cX12_went 9 = .ok (.ireturn, 1) := by decide +kernel
theorem dX12_copy_0 : decode cX12_copy 0 = .ok (.iload_n 1, 1) := by decide +kernel
set_option maxRecDepth 20000 in
theorem ggX12_copy_X12_isRow : GoodIn wsX12_copy wsX12_isRow := goodIn_r _ [8, 9, 10, 11, 7, 12] (by decide +kernel) (by decide +kernel)
set_option maxRecDepth 20000 in
theorem gX12_copy_X12_isRow : GoodIn wsX12_copy (va_wsS RX12 58 yX12_isRow wsX12_isRow) := goodIn_app (goodIn_of _ (by decide +kernel)) ggX12_copy_X12_isRow
theorem dX12_copy_1 : decode cX12_copy 1 = .ok (.invokestatic 58, 3) := by decide +kernel
theorem dX12_copy_4 : decode cX12_copy 4 = .ok (.ifCond .eq 10, 3) := by decide +kernel
theorem dX12_copy_14 : decode cX12_copy 14 = .ok (.ldc 64, 2) := by decide +kernel
theorem dX12_copy_16 : decode cX12_copy 16 = .ok (.ireturn, 1) := by decide +kernel
theorem dX12_copy_7 : decode cX12_copy 7 = .ok (.iload_n 3, 1) := by decide +kernel
theorem dX12_copy_8 : decode cX12_copy 8 = .ok (.invokestatic 58, 3) := by decide +kernel
theorem dX12_copy_11 : decode cX12_copy 11 = .ok (.ifCond .ne 6, 3) := by decide +kernel
theorem dX12_copy_17 : decode cX12_copy 17 = .ok (.aload_n 0, 1) := by decide +kernel
theorem dX12_copy_18 : decode cX12_copy 18 = .ok (.getfield 13, 3) := by decide +kernel
theorem dX12_copy_21 : decode cX12_copy 21 = .ok (.iload_n 1, 1) := by decide +kernel
theorem dX12_copy_22 : decode cX12_copy 22 = .ok (.iaload, 1) := by decide +kernel
theorem dX12_copy_23 : decode cX12_copy 23 = .ok (.ifCond .lt 12, 3) := by decide +kernel
theorem dX12_copy_35 : decode cX12_copy 35 = .ok (.aload_n 0, 1) := by decide +kernel
theorem dX12_copy_36 : decode cX12_copy 36 = .ok (.iconst 1, 1) := by decide +kernel
set_option maxRecDepth 20000 in
theorem ggX12_copy_X12_found : GoodIn wsX12_copy wsX12_found := goodIn_r _ [16, 17, 18, 23, 24, 25, 26, 27, 28, 29, 30, 31, 32, 33, 34, 35, 36, 37, 38, 39, 40, 41, 42, 43, 44, 45, 46, 47, 48] (by decide +kernel) (by decide +kernel)
set_option maxRecDepth 20000 in
theorem gX12_copy_X12_found : GoodIn wsX12_copy (wsV RX12 65 RX12 yX12_found wsX12_found) := goodIn_app (goodIn_of _ (by decide +kernel)) ggX12_copy_X12_found
theorem dX12_copy_37 : decode cX12_copy 37 = .ok (.invokevirtual 65, 3) := by decide +kernel
theorem dX12_copy_40 : decode cX12_copy 40 = .ok (.ireturn, 1) := by decide +kernel
theorem dX12_copy_26 : decode cX12_copy 26 = .ok (.aload_n 0, 1) := by decide +kernel
theorem dX12_copy_27 : decode cX12_copy 27 = .ok (.getfield 13, 3) := by decide +kernel
theorem dX12_copy_30 : decode cX12_copy 30 = .ok (.iload_n 3, 1) := by decide +kernel
theorem dX12_copy_31 : decode cX12_copy 31 = .ok (.iaload, 1) := by decide +kernel
theorem dX12_copy_32 : decode cX12_copy 32 = .ok (.ifCond .ge 9, 3) := by decide +kernel
theorem dX12_copy_41 : decode cX12_copy 41 = .ok (.aload_n 0, 1) := by decide +kernel
theorem dX12_copy_42 : decode cX12_copy 42 = .ok (.getfield 7, 3) := by decide +kernel
theorem dX12_copy_45 : decode cX12_copy 45 = .ok (.iload_n 1, 1) := by decide +kernel
theorem dX12_copy_46 : decode cX12_copy 46 = .ok (.iaload, 1) := by decide +kernel
theorem dX12_copy_47 : decode cX12_copy 47 = .ok (.aload_n 0, 1) := by decide +kernel
theorem dX12_copy_48 : decode cX12_copy 48 = .ok (.getfield 7, 3) := by decide +kernel
theorem dX12_copy_51 : decode cX12_copy 51 = .ok (.iload_n 3, 1) := by decide +kernel
theorem dX12_copy_52 : decode cX12_copy 52 = .ok (.iaload, 1) := by decide +kernel
theorem dX12_copy_53 : decode cX12_copy 53 = .ok (.if_icmp .eq 9, 3) := by decide +kernel
theorem dX12_copy_62 : decode cX12_copy 62 = .ok (.iload_n 2, 1) := by decide +kernel
theorem dX12_copy_63 : decode cX12_copy 63 = .ok (.ifCond .lt 48, 3) := by decide +kernel
theorem dX12_copy_111 : decode cX12_copy 111 = .ok (.aload_n 0, 1) := by decide +kernel
theorem dX12_copy_112 : decode cX12_copy 112 = .ok (.iconst 2, 1) := by decide +kernel
theorem dX12_copy_113 : decode cX12_copy 113 = .ok (.invokevirtual 65, 3) := by decide +kernel
theorem dX12_copy_116 : decode cX12_copy 116 = .ok (.ireturn, 1) := by decide +kernel
theorem dX12_copy_66 : decode cX12_copy 66 = .ok (.iload 4, 2) := by decide +kernel
theorem dX12_copy_68 : decode cX12_copy 68 = .ok (.ifCond .lt 43, 3) := by decide +kernel
theorem dX12_copy_71 : decode cX12_copy 71 = .ok (.iload 5, 2) := by decide +kernel
theorem dX12_copy_73 : decode cX12_copy 73 = .ok (.ifCond .lt 38, 3) := by decide +kernel
theorem dX12_copy_76 : decode cX12_copy 76 = .ok (.iload_n 2, 1) := by decide +kernel
theorem dX12_copy_77 : decode cX12_copy 77 = .ok (.i2l, 1) := by decide +kernel
theorem dX12_copy_78 : decode cX12_copy 78 = .ok (.iload 5, 2) := by decide +kernel
theorem dX12_copy_80 : decode cX12_copy 80 = .ok (.i2l, 1) := by decide +kernel
theorem dX12_copy_81 : decode cX12_copy 81 = .ok (.ladd, 1) := by decide +kernel
theorem dX12_copy_82 : decode cX12_copy 82 = .ok (.aload_n 0, 1) := by decide +kernel
theorem dX12_copy_83 : decode cX12_copy 83 = .ok (.getfield 13, 3) := by decide +kernel
theorem dX12_copy_86 : decode cX12_copy 86 = .ok (.iload_n 1, 1) := by decide +kernel
theorem dX12_copy_87 : decode cX12_copy 87 = .ok (.iaload, 1) := by decide +kernel
theorem dX12_copy_88 : decode cX12_copy 88 = .ok (.i2l, 1) := by decide +kernel
theorem dX12_copy_89 : decode cX12_copy 89 = .ok (.lcmp, 1) := by decide +kernel
theorem dX12_copy_90 : decode cX12_copy 90 = .ok (.ifCond .gt 21, 3) := by decide +kernel
theorem dX12_copy_93 : decode cX12_copy 93 = .ok (.iload 4, 2) := by decide +kernel
theorem dX12_copy_95 : decode cX12_copy 95 = .ok (.i2l, 1) := by decide +kernel
theorem dX12_copy_96 : decode cX12_copy 96 = .ok (.iload 5, 2) := by decide +kernel
theorem dX12_copy_98 : decode cX12_copy 98 = .ok (.i2l, 1) := by decide +kernel
theorem dX12_copy_99 : decode cX12_copy 99 = .ok (.ladd, 1) := by decide +kernel
theorem dX12_copy_100 : decode cX12_copy 100 = .ok (.aload_n 0, 1) := by decide +kernel
theorem dX12_copy_101 : decode cX12_copy 101 = .ok (.getfield 13, 3) := by decide +kernel
theorem dX12_copy_104 : decode cX12_copy 104 = .ok (.iload_n 3, 1) := by decide +kernel
theorem dX12_copy_105 : decode cX12_copy 105 = .ok (.iaload, 1) := by decide +kernel
theorem dX12_copy_106 : decode cX12_copy 106 = .ok (.i2l, 1) := by decide +kernel
theorem dX12_copy_107 : decode cX12_copy 107 = .ok (.lcmp, 1) := by decide +kernel
theorem dX12_copy_108 : decode cX12_copy 108 = .ok (.ifCond .le 9, 3) := by decide +kernel
theorem dX12_copy_117 : decode cX12_copy 117 = .ok (.iconst 0, 1) := by decide +kernel
theorem dX12_copy_118 : decode cX12_copy 118 = .ok (.istore 6, 2) := by decide +kernel
theorem dX12_copy_120 : decode cX12_copy 120 = .ok (.iload 6, 2) := by decide +kernel
theorem dX12_copy_122 : decode cX12_copy 122 = .ok (.iload 5, 2) := by decide +kernel
theorem dX12_copy_124 : decode cX12_copy 124 = .ok (.if_icmp .ge 58, 3) := by decide +kernel
theorem dX12_copy_182 : decode cX12_copy 182 = .ok (.aload_n 0, 1) := by decide +kernel
theorem dX12_copy_183 : decode cX12_copy 183 = .ok (.iload 5, 2) := by decide +kernel
set_option maxRecDepth 20000 in
theorem ggX12_copy_X12_well : GoodIn wsX12_copy wsX12_well := goodIn_r _ [22, 17, 23, 24, 25, 26, 27, 28, 29, 30, 31, 32, 33, 34, 35, 36, 37, 38, 39, 40, 41, 42, 43, 44, 45, 46, 47, 48] (by decide +kernel) (by decide +kernel)
set_option maxRecDepth 20000 in
theorem gX12_copy_X12_well : GoodIn wsX12_copy (wsV RX12 69 RX12 yX12_well wsX12_well) := goodIn_app (goodIn_of _ (by decide +kernel)) ggX12_copy_X12_well
theorem dX12_copy_185 : decode cX12_copy 185 = .ok (.invokevirtual 69, 3) := by decide +kernel
theorem dX12_copy_188 : decode cX12_copy 188 = .ok (.ireturn, 1) := by decide +kernel
theorem dX12_copy_127 : decode cX12_copy 127 = .ok (.iload 4, 2) := by decide +kernel
theorem dX12_copy_129 : decode cX12_copy 129 = .ok (.iload_n 2, 1) := by decide +kernel
theorem dX12_copy_130 : decode cX12_copy 130 = .ok (.if_icmp .le 13, 3) := by decide +kernel
theorem dX12_copy_143 : decode cX12_copy 143 = .ok (.iload 6, 2) := by decide +kernel
theorem dX12_copy_145 : decode cX12_copy 145 = .ok (.istore 7, 2) := by decide +kernel
theorem dX12_copy_147 : decode cX12_copy 147 = .ok (.aload_n 0, 1) := by decide +kernel
theorem dX12_copy_148 : decode cX12_copy 148 = .ok (.getfield 16, 3) := by decide +kernel
theorem dX12_copy_151 : decode cX12_copy 151 = .ok (.bipush 40, 2) := by decide +kernel
theorem dX12_copy_153 : decode cX12_copy 153 = .ok (.iload_n 3, 1) := by decide +kernel
theorem dX12_copy_154 : decode cX12_copy 154 = .ok (.imul, 1) := by decide +kernel
theorem dX12_copy_155 : decode cX12_copy 155 = .ok (.iload 4, 2) := by decide +kernel
theorem dX12_copy_157 : decode cX12_copy 157 = .ok (.iadd, 1) := by decide +kernel
theorem dX12_copy_158 : decode cX12_copy 158 = .ok (.iload 7, 2) := by decide +kernel
theorem dX12_copy_160 : decode cX12_copy 160 = .ok (.iadd, 1) := by decide +kernel
theorem dX12_copy_161 : decode cX12_copy 161 = .ok (.aload_n 0, 1) := by decide +kernel
theorem dX12_copy_162 : decode cX12_copy 162 = .ok (.getfield 16, 3) := by decide +kernel
theorem dX12_copy_165 : decode cX12_copy 165 = .ok (.bipush 40, 2) := by decide +kernel
theorem dX12_copy_167 : decode cX12_copy 167 = .ok (.iload_n 1, 1) := by decide +kernel
theorem dX12_copy_168 : decode cX12_copy 168 = .ok (.imul, 1) := by decide +kernel
theorem dX12_copy_169 : decode cX12_copy 169 = .ok (.iload_n 2, 1) := by decide +kernel
theorem dX12_copy_170 : decode cX12_copy 170 = .ok (.iadd, 1) := by decide +kernel
theorem dX12_copy_171 : decode cX12_copy 171 = .ok (.iload 7, 2) := by decide +kernel
theorem dX12_copy_173 : decode cX12_copy 173 = .ok (.iadd, 1) := by decide +kernel
theorem dX12_copy_174 : decode cX12_copy 174 = .ok (.iaload, 1) := by decide +kernel
theorem dX12_copy_175 : decode cX12_copy 175 = .ok (.iastore, 1) := by decide +kernel
theorem dX12_copy_176 : decode cX12_copy 176 = .ok (.iinc 6 1, 3) := by decide +kernel
theorem dX12_copy_179 : decode cX12_copy 179 = .ok (.goto (-59), 3) := by decide +kernel
theorem dX12_copy_133 : decode cX12_copy 133 = .ok (.iload 5, 2) := by decide +kernel
theorem dX12_copy_135 : decode cX12_copy 135 = .ok (.iconst 1, 1) := by decide +kernel
theorem dX12_copy_136 : decode cX12_copy 136 = .ok (.isub, 1) := by decide +kernel
theorem dX12_copy_137 : decode cX12_copy 137 = .ok (.iload 6, 2) := by decide +kernel
theorem dX12_copy_139 : decode cX12_copy 139 = .ok (.isub, 1) := by decide +kernel
theorem dX12_copy_140 : decode cX12_copy 140 = .ok (.goto 5, 3) := by decide +kernel
theorem dX12_copy_56 : decode cX12_copy 56 = .ok (.aload_n 0, 1) := by decide +kernel
theorem dX12_copy_57 : decode cX12_copy 57 = .ok (.iconst 5, 1) := by decide +kernel
theorem dX12_copy_58 : decode cX12_copy 58 = .ok (.invokevirtual 65, 3) := by decide +kernel
theorem dX12_copy_61 : decode cX12_copy 61 = .ok (.ireturn, 1) := by decide +kernel
set_option maxRecDepth 100000 in
set_option maxHeartbeats 4000000 in
theorem c_X12_went {E : XE} {B N : Nat} {v : Nat → va_E} {F a p t sz it : Nat → Int} {V r i what : Int} {l : Cor} (hc0 : Cel N v 161 (oM B F V)) (hc1 : Cel N v 166 (iarr E 138 a)) (hc2 : Cel N v 173 (iarr E 138 t)) (hc3 : Cel N v 163 (iarr E 8 sz)) (hc4 : Cel N v 164 (iarr E 320 it)) (hq0 : PR a p l) (hq1 : POk p) (hq2 : CorOk l) (hq3 : (l.length : Int) ≤ p 2) (hq4 : (-2147483648 ≤ r ∧ r ≤ 2147483647)) (hq5 : (-2147483648 ≤ i ∧ i ≤ 2147483647)) (hq6 : (-2147483648 ≤ what ∧ what ≤ 2147483647)) (hq7 : 0 ≤ F 7 ∧ F 7 ≤ 1) (hq8 : ∀ k, k < 8 → -1 ≤ sz k ∧ sz k ≤ 40) (hq9 : ∀ k, k < 320 → -2147483648 ≤ it k ∧ it k ≤ 2147483647) : gM yX12_went wsX12_went ({ frames := 3, cells := 0, slots := 0, locals := 70 }) E B N v [.ref (B + 161), .int (zI r), .int (zI i), .int (zI what)] (po0 N (fun ρ v' => ∃ (res : Int), ∃ (F2 : Nat → Int), ∃ (t2 : Nat → Int), ((F 7 = 0 ∧ res = -1000002 ∧ F2 = F) ∨ (F 7 = 1 ∧ ¬ (0 ≤ r ∧ r ≤ 7 ∧ 0 ≤ what ∧ what ≤ 2) ∧ res = -1000001 ∧ F2 = F) ∨ (F 7 = 1 ∧ (0 ≤ r ∧ r ≤ 7 ∧ 0 ≤ what ∧ what ≤ 2) ∧ sz r.toNat < 0 ∧ res = -1000011 ∧ F2 = va_up F 3 1) ∨ (F 7 = 1 ∧ (0 ≤ r ∧ r ≤ 7 ∧ 0 ≤ what ∧ what ≤ 2) ∧ 0 ≤ sz r.toNat ∧ ¬ (0 ≤ i ∧ i ≤ sz r.toNat - 8) ∧ res = -1000012 ∧ F2 = va_up F 3 2) ∨ (F 7 = 1 ∧ (0 ≤ r ∧ r ≤ 7 ∧ 0 ≤ what ∧ what ≤ 2) ∧ 0 ≤ sz r.toNat ∧ (0 ≤ i ∧ i ≤ sz r.toNat - 8) ∧ rowOk it (40 * r.toNat + i.toNat) 8 = 0 ∧ res = -1000001 ∧ F2 = F) ∨ (F 7 = 1 ∧ (0 ≤ r ∧ r ≤ 7 ∧ 0 ≤ what ∧ what ≤ 2) ∧ 0 ≤ sz r.toNat ∧ (0 ≤ i ∧ i ≤ sz r.toNat - 8) ∧ rowOk it (40 * r.toNat + i.toNat) 8 = 1 ∧ res = (if what = 0 then wentC p l it (40 * r.toNat + i.toNat) (48 * (p 4).toNat) else if what = 1 then wentB p l it (40 * r.toNat + i.toNat) (48 * (p 4).toNat) else isSoF p l it (40 * r.toNat + i.toNat) 8) ∧ F2 = va_up F 3 0)) ∧ ρ = some (.int (zI res)) ∧ (va_up (va_up v 161 (oM B F2 V)) 173 (iarr E 138 t2)) = v')) := by
  refine x_met (nm := "went") (by decide +kernel) rfl (Nat.le_of_ble_eq_true rfl) rfl (fun Γ K KR hnL hnm => ?_)
  show XW Γ N v [(0, .ref (B + 161)), (1, .int (zI r)), (2, .int (zI i)), (3, .int (zI what))] 0 0 0 []
  have h4 := hq0.1 4 (by omega)
  have hp4 := hq1.2.2.2.2.1
  have hkp := hq1.2.2.1
  refine x_v (cel_pad hc0) ?_
  refine x_v (cel_pad (cel_ne hc2 (by decide))) ?_
  refine x_aload_n (pc := 0) 0 K rfl rfl dX12_went_0 ?_
  refine x_get (pc := 1) (C := RX12) (T := TX12) (n := 26) (ci := 11) (idx := 186) (ref := "BorderBedsModel") (x := .int (zI (F 7)))  K (cel_ne (cel_self hc0.1) (by decide)) rfl (by decide +kernel) 7 (by decide) (by decide +kernel) rfl rfl dX12_went_1 ?_
  refine x_if_ne (pc := 4) (tgt := 10) K (by omega) dX12_went_4 (by decide) (fun h_4 => ?_) (fun h_4 => ?_)
  · skip
    refine x_iload_n (pc := 10) 1 K rfl rfl dX12_went_10 ?_
    refine x_callS (pc := 11) (As := [.int (zI r)]) K (c_X12_isRow (E := E) (B := B) (N := N)    (by omega)) gX12_went_X12_isRow rfl (na := 1) (by decide +kernel) rfl ⟨(Nat.le_of_ble_eq_true rfl), (Nat.le_of_ble_eq_true rfl)⟩ (st := []) rfl (Nat.le_of_ble_eq_true rfl) ⟨(Nat.le_of_ble_eq_true rfl), (Nat.le_of_ble_eq_true rfl)⟩ dX12_went_11 (fun r11 N11 w11 hpo11 hN11 => ?_)
    obtain ⟨rfl, rfl, rfl⟩ := hpo11
    refine x_st (st' := [.int (zI (bI (0 ≤ r ∧ r ≤ 7)))]) rfl ?_
    have hrg11 := bI_rng (0 ≤ r ∧ r ≤ 7)
    refine x_if_eq (pc := 14) (tgt := 29) K (by omega) dX12_went_14 (by decide) (fun h_14 => ?_) (fun h_14 => ?_)
    · skip
      have h_14 := bI_t h_14
      refine x_ldc (pc := 29) (x := (-1000001)) (-1000001) K (by decide) (by decide +kernel) dX12_went_29 ?_
      refine x_iret (pc := 31) K KR (by omega) (Nat.le_of_ble_eq_true rfl) (Nat.le_of_ble_eq_true rfl) dX12_went_31 ?_
      exact ⟨rfl, (-1000001), F, t, (by (try simp only [Int.toNat_natCast]); first | exact Or.inl ⟨(by first | rfl | trivial | omega | assumption), (by first | rfl | trivial | omega | assumption), (by first | rfl | trivial | omega | assumption)⟩ | exact Or.inr (Or.inl ⟨(by first | rfl | trivial | omega | assumption), (by first | rfl | trivial | omega | assumption), (by first | rfl | trivial | omega | assumption), (by first | rfl | trivial | omega | assumption)⟩) | exact Or.inr (Or.inr (Or.inl ⟨(by first | rfl | trivial | omega | assumption), (by first | rfl | trivial | omega | assumption), (by first | rfl | trivial | omega | assumption), (by first | rfl | trivial | omega | assumption), (by first | rfl | trivial | omega | assumption)⟩)) | exact Or.inr (Or.inr (Or.inr (Or.inl ⟨(by first | rfl | trivial | omega | assumption), (by first | rfl | trivial | omega | assumption), (by first | rfl | trivial | omega | assumption), (by first | rfl | trivial | omega | assumption), (by first | rfl | trivial | omega | assumption), (by first | rfl | trivial | omega | assumption)⟩))) | exact Or.inr (Or.inr (Or.inr (Or.inr (Or.inl ⟨(by first | rfl | trivial | omega | assumption), (by first | rfl | trivial | omega | assumption), (by first | rfl | trivial | omega | assumption), (by first | rfl | trivial | omega | assumption), (by assumption), (by first | rfl | trivial | omega | assumption), (by first | rfl | trivial | omega | assumption)⟩)))) | exact Or.inr (Or.inr (Or.inr (Or.inr (Or.inr (⟨(by first | rfl | trivial | omega | assumption), (by first | rfl | trivial | omega | assumption), (by first | rfl | trivial | omega | assumption), (by first | rfl | trivial | omega | assumption), (by assumption), (by split <;> (try split) <;> omega), (by first | rfl | trivial | omega | assumption)⟩)))))), rfl, rfl⟩
    · skip
      have h_14 := bI_f h_14
      refine x_iload_n (pc := 17) 3 K rfl rfl dX12_went_17 ?_
      refine x_i2l (pc := 18) K (by omega) dX12_went_18 ?_
      refine x_lconst (pc := 19) (0) K (by decide) dX12_went_19 ?_
      refine x_ldc2 (pc := 20) (x := (2)) (2) K (by decide) (by decide +kernel) dX12_went_20 ?_
      refine x_callS (pc := 23) (As := [.long (zL what), .long (zL 0), .long (zL 2)]) K (c_X12_in (E := E) (B := B) (N := N)    (by omega) (by omega) (by omega)) gX12_went_X12_in rfl (na := 3) (by decide +kernel) rfl ⟨(Nat.le_of_ble_eq_true rfl), (Nat.le_of_ble_eq_true rfl)⟩ (st := []) rfl (Nat.le_of_ble_eq_true rfl) ⟨(Nat.le_of_ble_eq_true rfl), (Nat.le_of_ble_eq_true rfl)⟩ dX12_went_23 (fun r23 N23 w23 hpo23 hN23 => ?_)
      obtain ⟨rfl, rfl, rfl⟩ := hpo23
      refine x_st (st' := [.int (zI (bI (0 ≤ what ∧ what ≤ 2)))]) rfl ?_
      have hrg23 := bI_rng (0 ≤ what ∧ what ≤ 2)
      refine x_if_ne (pc := 26) (tgt := 32) K (by omega) dX12_went_26 (by decide) (fun h_26 => ?_) (fun h_26 => ?_)
      · skip
        have h_26 := bI_f h_26
        obtain ⟨rr, rfl⟩ : ∃ rr : Nat, r = (rr : Int) := ⟨r.toNat, by omega⟩
        have b37 := hq8 rr (by omega)
        refine x_aload_n (pc := 32) 0 K rfl rfl dX12_went_32 ?_
        refine x_get (pc := 33) (C := RX12) (T := TX12) (n := 26) (ci := 11) (idx := 13) (ref := "BorderBedsModel") (x := .ref (B + 163))  K (cel_ne (cel_self hc0.1) (by decide)) rfl (by decide +kernel) 1 (by decide) (by decide +kernel) rfl rfl dX12_went_33 ?_
        refine x_iload_n (pc := 36) 1 K rfl rfl dX12_went_36 ?_
        refine x_iald (pc := 37) rr K (cel_ne (cel_ne hc3 (by decide)) (by decide)) rfl (by omega) (by decide) dX12_went_37 ?_
        refine x_if_ge (pc := 38) (tgt := 47) K (by omega) dX12_went_38 (by decide) (fun h_38 => ?_) (fun h_38 => ?_)
        · skip
          refine x_iload_n (pc := 47) 2 K rfl rfl dX12_went_47 ?_
          refine x_if_lt (pc := 48) (tgt := 64) K (by omega) dX12_went_48 (by decide) (fun h_48 => ?_) (fun h_48 => ?_)
          · skip
            refine x_aload_n (pc := 64) 0 K rfl rfl dX12_went_64 ?_
            refine x_iconst (pc := 65) K dX12_went_65 ?_
            refine x_callV (pc := 66) (C := RX12) (T := TX12) (n := 26) (ci := 11) (As := [.int (zI 2)]) K (c_X12_found (E := E) (B := B) (N := N)   (cel_ne (cel_self hc0.1) (by decide)) ) gX12_went_X12_found rfl (na := 1) (by decide +kernel) rfl ⟨(Nat.le_of_ble_eq_true rfl), (Nat.le_of_ble_eq_true rfl)⟩ (cel_ne (cel_self hc0.1) (by decide)) rfl (st := []) rfl (Nat.le_of_ble_eq_true rfl) ⟨(Nat.le_of_ble_eq_true rfl), (Nat.le_of_ble_eq_true rfl)⟩ dX12_went_66 (fun r66 N66 w66 hpo66 hN66 => ?_)
            obtain ⟨rfl, rfl, rfl⟩ := hpo66
            refine x_v (w := (va_up (va_up v 161 (oM B (va_up F 3 2) V)) 173 (iarr E 138 t))) (up_at1 (by decide)).symm ?_
            refine x_st (st' := [.int (zI (-1000010 - 2))]) rfl ?_
            refine x_iret (pc := 69) K KR (by omega) (Nat.le_of_ble_eq_true rfl) (Nat.le_of_ble_eq_true rfl) dX12_went_69 ?_
            exact ⟨rfl, (-1000010 - 2), (va_up F 3 2), t, (by (try simp only [Int.toNat_natCast]); first | exact Or.inl ⟨(by first | rfl | trivial | omega | assumption), (by first | rfl | trivial | omega | assumption), (by first | rfl | trivial | omega | assumption)⟩ | exact Or.inr (Or.inl ⟨(by first | rfl | trivial | omega | assumption), (by first | rfl | trivial | omega | assumption), (by first | rfl | trivial | omega | assumption), (by first | rfl | trivial | omega | assumption)⟩) | exact Or.inr (Or.inr (Or.inl ⟨(by first | rfl | trivial | omega | assumption), (by first | rfl | trivial | omega | assumption), (by first | rfl | trivial | omega | assumption), (by first | rfl | trivial | omega | assumption), (by first | rfl | trivial | omega | assumption)⟩)) | exact Or.inr (Or.inr (Or.inr (Or.inl ⟨(by first | rfl | trivial | omega | assumption), (by first | rfl | trivial | omega | assumption), (by first | rfl | trivial | omega | assumption), (by first | rfl | trivial | omega | assumption), (by first | rfl | trivial | omega | assumption), (by first | rfl | trivial | omega | assumption)⟩))) | exact Or.inr (Or.inr (Or.inr (Or.inr (Or.inl ⟨(by first | rfl | trivial | omega | assumption), (by first | rfl | trivial | omega | assumption), (by first | rfl | trivial | omega | assumption), (by first | rfl | trivial | omega | assumption), (by assumption), (by first | rfl | trivial | omega | assumption), (by first | rfl | trivial | omega | assumption)⟩)))) | exact Or.inr (Or.inr (Or.inr (Or.inr (Or.inr (⟨(by first | rfl | trivial | omega | assumption), (by first | rfl | trivial | omega | assumption), (by first | rfl | trivial | omega | assumption), (by first | rfl | trivial | omega | assumption), (by assumption), (by split <;> (try split) <;> omega), (by first | rfl | trivial | omega | assumption)⟩)))))), rfl, rfl⟩
          · skip
            refine x_iload_n (pc := 51) 2 K rfl rfl dX12_went_51 ?_
            refine x_aload_n (pc := 52) 0 K rfl rfl dX12_went_52 ?_
            refine x_get (pc := 53) (C := RX12) (T := TX12) (n := 26) (ci := 11) (idx := 13) (ref := "BorderBedsModel") (x := .ref (B + 163))  K (cel_ne (cel_self hc0.1) (by decide)) rfl (by decide +kernel) 1 (by decide) (by decide +kernel) rfl rfl dX12_went_53 ?_
            refine x_iload_n (pc := 56) 1 K rfl rfl dX12_went_56 ?_
            refine x_iald (pc := 57) rr K (cel_ne (cel_ne hc3 (by decide)) (by decide)) rfl (by omega) (by decide) dX12_went_57 ?_
            refine x_bipush (pc := 58) K (by decide) dX12_went_58 ?_
            refine x_isub (pc := 60) K dX12_went_60 ?_
            refine x_icmp_le (pc := 61) (tgt := 70) K (by omega) (by omega) dX12_went_61 (by decide) (fun h_61 => ?_) (fun h_61 => ?_)
            · skip
              obtain ⟨ii, rfl⟩ : ∃ ii : Nat, i = (ii : Int) := ⟨i.toNat, by omega⟩
              refine x_bipush (pc := 70) K (by decide) dX12_went_70 ?_
              refine x_iload_n (pc := 72) 1 K rfl rfl dX12_went_72 ?_
              refine x_imul (pc := 73) K dX12_went_73 ?_
              refine x_iload_n (pc := 74) 2 K rfl rfl dX12_went_74 ?_
              refine x_iadd (pc := 75) K dX12_went_75 ?_
              refine x_nmN (m := ((40 * rr) + ii)) (by omega) (fun z1 hz1 => ?_)
              refine x_istore (pc := 76) K (L' := [(4, .int (zI (z1 : Int))), (0, .ref (B + 161)), (1, .int (zI (rr : Int))), (2, .int (zI (ii : Int))), (3, .int (zI what))]) hnL (by decide) rfl dX12_went_76 ?_
              refine x_iconst (pc := 78) K dX12_went_78 ?_
              refine x_istore (pc := 79) K (L' := [(5, .int (zI 0)), (4, .int (zI (z1 : Int))), (0, .ref (B + 161)), (1, .int (zI (rr : Int))), (2, .int (zI (ii : Int))), (3, .int (zI what))]) hnL (by decide) rfl dX12_went_79 ?_
              have LOOP81 : ∀ (n_81 : Nat) (k : Nat), (k ≤ 8) → (rowOk it z1 k = 1) → (8 - k) < n_81 → XW Γ N (va_up (va_up v 161 (oM B F V)) 173 (iarr E 138 t)) [(0, .ref (B + 161)), (1, .int (zI (rr : Int))), (2, .int (zI (ii : Int))), (3, .int (zI what)), (4, .int (zI (z1 : Int))), (5, .int (zI (k : Int)))] 0 0 81 [] := by
                intro n_81
                induction n_81 with
                | zero =>
                  intro k hi81_0 hi81_1 hm_81
                  exfalso; omega
                | succ n_81 ih81 =>
                  intro k hi81_0 hi81_1 hm_81
                  refine x_iload (pc := 81) 5 K rfl dX12_went_81 ?_
                  refine x_bipush (pc := 83) K (by decide) dX12_went_83 ?_
                  refine x_icmp_ge (pc := 85) (tgt := 118) K (by omega) (by decide) dX12_went_85 (by decide) (fun h_85 => ?_) (fun h_85 => ?_)
                  · skip
                    have hk8 : k = 8 := by omega
                    rw [hk8] at hi81_1
                    refine x_iconst (pc := 118) K dX12_went_118 ?_
                    refine x_istore (pc := 119) K (L' := [(5, .int (zI 0)), (0, .ref (B + 161)), (1, .int (zI (rr : Int))), (2, .int (zI (ii : Int))), (3, .int (zI what)), (4, .int (zI (z1 : Int)))]) hnL (by decide) rfl dX12_went_119 ?_
                    refine x_ldc (pc := 121) (x := (-1000000)) (-1000000) K (by decide) (by decide +kernel) dX12_went_121 ?_
                    refine x_istore (pc := 123) K (L' := [(6, .int (zI (-1000000))), (5, .int (zI 0)), (0, .ref (B + 161)), (1, .int (zI (rr : Int))), (2, .int (zI (ii : Int))), (3, .int (zI what)), (4, .int (zI (z1 : Int)))]) hnL (by decide) rfl dX12_went_123 ?_
                    refine x_iconst (pc := 125) K dX12_went_125 ?_
                    refine x_istore (pc := 126) K (L' := [(7, .int (zI 0)), (6, .int (zI (-1000000))), (5, .int (zI 0)), (0, .ref (B + 161)), (1, .int (zI (rr : Int))), (2, .int (zI (ii : Int))), (3, .int (zI what)), (4, .int (zI (z1 : Int)))]) hnL (by decide) rfl dX12_went_126 ?_
                    have LOOP128 : ∀ (n_128 : Nat) (cn : Int) (b : Int) (j : Nat) (x1 : Nat → Int), (j ≤ (p 4).toNat) → (cn = wentC p l it z1 (48 * j) ∧ b = wentB p l it z1 (48 * j)) → ((p 4).toNat - j) < n_128 → XW Γ N (va_up (va_up v 161 (oM B F V)) 173 (iarr E 138 x1)) [(0, .ref (B + 161)), (1, .int (zI (rr : Int))), (2, .int (zI (ii : Int))), (3, .int (zI what)), (4, .int (zI (z1 : Int))), (5, .int (zI cn)), (6, .int (zI b)), (7, .int (zI (j : Int)))] 0 0 128 [] := by
                      intro n_128
                      induction n_128 with
                      | zero =>
                        intro cn b j x1 hi128_0 hi128_1 hm_128
                        exfalso; omega
                      | succ n_128 ih128 =>
                        intro cn b j x1 hi128_0 hi128_1 hm_128
                        refine x_iload (pc := 128) 7 K rfl dX12_went_128 ?_
                        refine x_aload_n (pc := 130) 0 K rfl rfl dX12_went_130 ?_
                        refine x_get (pc := 131) (C := RX12) (T := TX12) (n := 26) (ci := 11) (idx := 22) (ref := "BorderBedsModel") (x := .ref (B + 166))  K (cel_ne (cel_self hc0.1) (by decide)) rfl (by decide +kernel) 8 (by decide) (by decide +kernel) rfl rfl dX12_went_131 ?_
                        refine x_iconst (pc := 134) K dX12_went_134 ?_
                        refine x_iald (pc := 135) 4 K (cel_ne (cel_ne hc1 (by decide)) (by decide)) rfl (by omega) (by decide) dX12_went_135 ?_
                        refine x_icmp_ge (pc := 136) (tgt := 238) K (by omega) (by omega) dX12_went_136 (by decide) (fun h_136 => ?_) (fun h_136 => ?_)
                        · skip
                          have hjm : j = (p 4).toNat := by omega
                          rw [hjm] at hi128_1
                          refine x_aload_n (pc := 238) 0 K rfl rfl dX12_went_238 ?_
                          refine x_iload_n (pc := 239) 3 K rfl rfl dX12_went_239 ?_
                          refine x_if_ne (pc := 240) (tgt := 248) K (by omega) dX12_went_240 (by decide) (fun h_240 => ?_) (fun h_240 => ?_)
                          · skip
                            refine x_iload_n (pc := 248) 3 K rfl rfl dX12_went_248 ?_
                            refine x_iconst (pc := 249) K dX12_went_249 ?_
                            refine x_icmp_ne (pc := 250) (tgt := 258) K (by omega) (by decide) dX12_went_250 (by decide) (fun h_250 => ?_) (fun h_250 => ?_)
                            · skip
                              refine x_aload_n (pc := 258) 0 K rfl rfl dX12_went_258 ?_
                              refine x_aload_n (pc := 259) 0 K rfl rfl dX12_went_259 ?_
                              refine x_get (pc := 260) (C := RX12) (T := TX12) (n := 26) (ci := 11) (idx := 22) (ref := "BorderBedsModel") (x := .ref (B + 166))  K (cel_ne (cel_self hc0.1) (by decide)) rfl (by decide +kernel) 8 (by decide) (by decide +kernel) rfl rfl dX12_went_260 ?_
                              refine x_iload (pc := 263) 4 K rfl dX12_went_263 ?_
                              refine x_callV (pc := 265) (C := RX12) (T := TX12) (n := 26) (ci := 11) (As := [.ref (B + 166), .int (zI (z1 : Int))]) K (c_X12_isSo (E := E) (B := B) (N := N) (p := p) (l := l) (o := z1) rfl (cel_ne (cel_self hc0.1) (by decide)) (cel_ne (cel_ne hc1 (by decide)) (by decide)) (cel_ne (cel_ne hc4 (by decide)) (by decide)) hq0 hq1 hq2 hq3 (by omega) hq9) gX12_went_X12_isSo rfl (na := 2) (by decide +kernel) rfl ⟨(Nat.le_of_ble_eq_true rfl), (Nat.le_of_ble_eq_true rfl)⟩ (cel_ne (cel_self hc0.1) (by decide)) rfl (st := [.ref (B + 161)]) rfl (Nat.le_of_ble_eq_true rfl) ⟨(Nat.le_of_ble_eq_true rfl), (Nat.le_of_ble_eq_true rfl)⟩ dX12_went_265 (fun r265 N265 w265 hpo265 hN265 => ?_)
                              obtain ⟨rfl, rfl, rfl⟩ := hpo265
                              refine x_st (st' := [.int (zI (isSoF p l it z1 8)), .ref (B + 161)]) rfl ?_
                              have hrg265 := isSoF_rng p l it z1 8
                              refine x_if_eq (pc := 268) (tgt := 275) K (by omega) dX12_went_268 (by decide) (fun h_268 => ?_) (fun h_268 => ?_)
                              · skip
                                refine x_iconst (pc := 275) K dX12_went_275 ?_
                                refine x_callV (pc := 276) (C := RX12) (T := TX12) (n := 26) (ci := 11) (As := [.int (zI 0)]) K (c_X12_well (E := E) (B := B) (N := N)   (cel_ne (cel_self hc0.1) (by decide)) ) gX12_went_X12_well rfl (na := 1) (by decide +kernel) rfl ⟨(Nat.le_of_ble_eq_true rfl), (Nat.le_of_ble_eq_true rfl)⟩ (cel_ne (cel_self hc0.1) (by decide)) rfl (st := []) rfl (Nat.le_of_ble_eq_true rfl) ⟨(Nat.le_of_ble_eq_true rfl), (Nat.le_of_ble_eq_true rfl)⟩ dX12_went_276 (fun r276 N276 w276 hpo276 hN276 => ?_)
                                obtain ⟨rfl, rfl, rfl⟩ := hpo276
                                refine x_v (w := (va_up (va_up v 161 (oM B (va_up F 3 0) V)) 173 (iarr E 138 x1))) (up_at1 (by decide)).symm ?_
                                refine x_st (st' := [.int (zI 0)]) rfl ?_
                                refine x_iret (pc := 279) K KR (by omega) (Nat.le_of_ble_eq_true rfl) (Nat.le_of_ble_eq_true rfl) dX12_went_279 ?_
                                subst hz1
                                exact ⟨rfl, 0, (va_up F 3 0), x1, (by (try simp only [Int.toNat_natCast]); first | exact Or.inl ⟨(by first | rfl | trivial | omega | assumption), (by first | rfl | trivial | omega | assumption), (by first | rfl | trivial | omega | assumption)⟩ | exact Or.inr (Or.inl ⟨(by first | rfl | trivial | omega | assumption), (by first | rfl | trivial | omega | assumption), (by first | rfl | trivial | omega | assumption), (by first | rfl | trivial | omega | assumption)⟩) | exact Or.inr (Or.inr (Or.inl ⟨(by first | rfl | trivial | omega | assumption), (by first | rfl | trivial | omega | assumption), (by first | rfl | trivial | omega | assumption), (by first | rfl | trivial | omega | assumption), (by first | rfl | trivial | omega | assumption)⟩)) | exact Or.inr (Or.inr (Or.inr (Or.inl ⟨(by first | rfl | trivial | omega | assumption), (by first | rfl | trivial | omega | assumption), (by first | rfl | trivial | omega | assumption), (by first | rfl | trivial | omega | assumption), (by first | rfl | trivial | omega | assumption), (by first | rfl | trivial | omega | assumption)⟩))) | exact Or.inr (Or.inr (Or.inr (Or.inr (Or.inl ⟨(by first | rfl | trivial | omega | assumption), (by first | rfl | trivial | omega | assumption), (by first | rfl | trivial | omega | assumption), (by first | rfl | trivial | omega | assumption), (by assumption), (by first | rfl | trivial | omega | assumption), (by first | rfl | trivial | omega | assumption)⟩)))) | exact Or.inr (Or.inr (Or.inr (Or.inr (Or.inr (⟨(by first | rfl | trivial | omega | assumption), (by first | rfl | trivial | omega | assumption), (by first | rfl | trivial | omega | assumption), (by first | rfl | trivial | omega | assumption), (by assumption), (by split <;> (try split) <;> omega), (by first | rfl | trivial | omega | assumption)⟩)))))), rfl, rfl⟩
                              · skip
                                refine x_iconst (pc := 271) K dX12_went_271 ?_
                                refine x_goto (pc := 272) (tgt := 276) K dX12_went_272 (by decide) ?_
                                refine x_callV (pc := 276) (C := RX12) (T := TX12) (n := 26) (ci := 11) (As := [.int (zI 1)]) K (c_X12_well (E := E) (B := B) (N := N)   (cel_ne (cel_self hc0.1) (by decide)) ) gX12_went_X12_well rfl (na := 1) (by decide +kernel) rfl ⟨(Nat.le_of_ble_eq_true rfl), (Nat.le_of_ble_eq_true rfl)⟩ (cel_ne (cel_self hc0.1) (by decide)) rfl (st := []) rfl (Nat.le_of_ble_eq_true rfl) ⟨(Nat.le_of_ble_eq_true rfl), (Nat.le_of_ble_eq_true rfl)⟩ dX12_went_276 (fun r276 N276 w276 hpo276 hN276 => ?_)
                                obtain ⟨rfl, rfl, rfl⟩ := hpo276
                                refine x_v (w := (va_up (va_up v 161 (oM B (va_up F 3 0) V)) 173 (iarr E 138 x1))) (up_at1 (by decide)).symm ?_
                                refine x_st (st' := [.int (zI 1)]) rfl ?_
                                refine x_iret (pc := 279) K KR (by omega) (Nat.le_of_ble_eq_true rfl) (Nat.le_of_ble_eq_true rfl) dX12_went_279 ?_
                                subst hz1
                                exact ⟨rfl, 1, (va_up F 3 0), x1, (by (try simp only [Int.toNat_natCast]); first | exact Or.inl ⟨(by first | rfl | trivial | omega | assumption), (by first | rfl | trivial | omega | assumption), (by first | rfl | trivial | omega | assumption)⟩ | exact Or.inr (Or.inl ⟨(by first | rfl | trivial | omega | assumption), (by first | rfl | trivial | omega | assumption), (by first | rfl | trivial | omega | assumption), (by first | rfl | trivial | omega | assumption)⟩) | exact Or.inr (Or.inr (Or.inl ⟨(by first | rfl | trivial | omega | assumption), (by first | rfl | trivial | omega | assumption), (by first | rfl | trivial | omega | assumption), (by first | rfl | trivial | omega | assumption), (by first | rfl | trivial | omega | assumption)⟩)) | exact Or.inr (Or.inr (Or.inr (Or.inl ⟨(by first | rfl | trivial | omega | assumption), (by first | rfl | trivial | omega | assumption), (by first | rfl | trivial | omega | assumption), (by first | rfl | trivial | omega | assumption), (by first | rfl | trivial | omega | assumption), (by first | rfl | trivial | omega | assumption)⟩))) | exact Or.inr (Or.inr (Or.inr (Or.inr (Or.inl ⟨(by first | rfl | trivial | omega | assumption), (by first | rfl | trivial | omega | assumption), (by first | rfl | trivial | omega | assumption), (by first | rfl | trivial | omega | assumption), (by assumption), (by first | rfl | trivial | omega | assumption), (by first | rfl | trivial | omega | assumption)⟩)))) | exact Or.inr (Or.inr (Or.inr (Or.inr (Or.inr (⟨(by first | rfl | trivial | omega | assumption), (by first | rfl | trivial | omega | assumption), (by first | rfl | trivial | omega | assumption), (by first | rfl | trivial | omega | assumption), (by assumption), (by split <;> (try split) <;> omega), (by first | rfl | trivial | omega | assumption)⟩)))))), rfl, rfl⟩
                            · skip
                              refine x_iload (pc := 253) 6 K rfl dX12_went_253 ?_
                              refine x_goto (pc := 255) (tgt := 276) K dX12_went_255 (by decide) ?_
                              refine x_callV (pc := 276) (C := RX12) (T := TX12) (n := 26) (ci := 11) (As := [.int (zI b)]) K (c_X12_well (E := E) (B := B) (N := N)   (cel_ne (cel_self hc0.1) (by decide)) ) gX12_went_X12_well rfl (na := 1) (by decide +kernel) rfl ⟨(Nat.le_of_ble_eq_true rfl), (Nat.le_of_ble_eq_true rfl)⟩ (cel_ne (cel_self hc0.1) (by decide)) rfl (st := []) rfl (Nat.le_of_ble_eq_true rfl) ⟨(Nat.le_of_ble_eq_true rfl), (Nat.le_of_ble_eq_true rfl)⟩ dX12_went_276 (fun r276 N276 w276 hpo276 hN276 => ?_)
                              obtain ⟨rfl, rfl, rfl⟩ := hpo276
                              refine x_v (w := (va_up (va_up v 161 (oM B (va_up F 3 0) V)) 173 (iarr E 138 x1))) (up_at1 (by decide)).symm ?_
                              refine x_st (st' := [.int (zI b)]) rfl ?_
                              refine x_iret (pc := 279) K KR (by omega) (Nat.le_of_ble_eq_true rfl) (Nat.le_of_ble_eq_true rfl) dX12_went_279 ?_
                              subst hz1
                              exact ⟨rfl, b, (va_up F 3 0), x1, (by (try simp only [Int.toNat_natCast]); first | exact Or.inl ⟨(by first | rfl | trivial | omega | assumption), (by first | rfl | trivial | omega | assumption), (by first | rfl | trivial | omega | assumption)⟩ | exact Or.inr (Or.inl ⟨(by first | rfl | trivial | omega | assumption), (by first | rfl | trivial | omega | assumption), (by first | rfl | trivial | omega | assumption), (by first | rfl | trivial | omega | assumption)⟩) | exact Or.inr (Or.inr (Or.inl ⟨(by first | rfl | trivial | omega | assumption), (by first | rfl | trivial | omega | assumption), (by first | rfl | trivial | omega | assumption), (by first | rfl | trivial | omega | assumption), (by first | rfl | trivial | omega | assumption)⟩)) | exact Or.inr (Or.inr (Or.inr (Or.inl ⟨(by first | rfl | trivial | omega | assumption), (by first | rfl | trivial | omega | assumption), (by first | rfl | trivial | omega | assumption), (by first | rfl | trivial | omega | assumption), (by first | rfl | trivial | omega | assumption), (by first | rfl | trivial | omega | assumption)⟩))) | exact Or.inr (Or.inr (Or.inr (Or.inr (Or.inl ⟨(by first | rfl | trivial | omega | assumption), (by first | rfl | trivial | omega | assumption), (by first | rfl | trivial | omega | assumption), (by first | rfl | trivial | omega | assumption), (by assumption), (by first | rfl | trivial | omega | assumption), (by first | rfl | trivial | omega | assumption)⟩)))) | exact Or.inr (Or.inr (Or.inr (Or.inr (Or.inr (⟨(by first | rfl | trivial | omega | assumption), (by first | rfl | trivial | omega | assumption), (by first | rfl | trivial | omega | assumption), (by first | rfl | trivial | omega | assumption), (by assumption), (by split <;> (try split) <;> omega), (by first | rfl | trivial | omega | assumption)⟩)))))), rfl, rfl⟩
                          · skip
                            refine x_iload (pc := 243) 5 K rfl dX12_went_243 ?_
                            refine x_goto (pc := 245) (tgt := 276) K dX12_went_245 (by decide) ?_
                            refine x_callV (pc := 276) (C := RX12) (T := TX12) (n := 26) (ci := 11) (As := [.int (zI cn)]) K (c_X12_well (E := E) (B := B) (N := N)   (cel_ne (cel_self hc0.1) (by decide)) ) gX12_went_X12_well rfl (na := 1) (by decide +kernel) rfl ⟨(Nat.le_of_ble_eq_true rfl), (Nat.le_of_ble_eq_true rfl)⟩ (cel_ne (cel_self hc0.1) (by decide)) rfl (st := []) rfl (Nat.le_of_ble_eq_true rfl) ⟨(Nat.le_of_ble_eq_true rfl), (Nat.le_of_ble_eq_true rfl)⟩ dX12_went_276 (fun r276 N276 w276 hpo276 hN276 => ?_)
                            obtain ⟨rfl, rfl, rfl⟩ := hpo276
                            refine x_v (w := (va_up (va_up v 161 (oM B (va_up F 3 0) V)) 173 (iarr E 138 x1))) (up_at1 (by decide)).symm ?_
                            refine x_st (st' := [.int (zI cn)]) rfl ?_
                            refine x_iret (pc := 279) K KR (by omega) (Nat.le_of_ble_eq_true rfl) (Nat.le_of_ble_eq_true rfl) dX12_went_279 ?_
                            subst hz1
                            exact ⟨rfl, cn, (va_up F 3 0), x1, (by (try simp only [Int.toNat_natCast]); first | exact Or.inl ⟨(by first | rfl | trivial | omega | assumption), (by first | rfl | trivial | omega | assumption), (by first | rfl | trivial | omega | assumption)⟩ | exact Or.inr (Or.inl ⟨(by first | rfl | trivial | omega | assumption), (by first | rfl | trivial | omega | assumption), (by first | rfl | trivial | omega | assumption), (by first | rfl | trivial | omega | assumption)⟩) | exact Or.inr (Or.inr (Or.inl ⟨(by first | rfl | trivial | omega | assumption), (by first | rfl | trivial | omega | assumption), (by first | rfl | trivial | omega | assumption), (by first | rfl | trivial | omega | assumption), (by first | rfl | trivial | omega | assumption)⟩)) | exact Or.inr (Or.inr (Or.inr (Or.inl ⟨(by first | rfl | trivial | omega | assumption), (by first | rfl | trivial | omega | assumption), (by first | rfl | trivial | omega | assumption), (by first | rfl | trivial | omega | assumption), (by first | rfl | trivial | omega | assumption), (by first | rfl | trivial | omega | assumption)⟩))) | exact Or.inr (Or.inr (Or.inr (Or.inr (Or.inl ⟨(by first | rfl | trivial | omega | assumption), (by first | rfl | trivial | omega | assumption), (by first | rfl | trivial | omega | assumption), (by first | rfl | trivial | omega | assumption), (by assumption), (by first | rfl | trivial | omega | assumption), (by first | rfl | trivial | omega | assumption)⟩)))) | exact Or.inr (Or.inr (Or.inr (Or.inr (Or.inr (⟨(by first | rfl | trivial | omega | assumption), (by first | rfl | trivial | omega | assumption), (by first | rfl | trivial | omega | assumption), (by first | rfl | trivial | omega | assumption), (by assumption), (by split <;> (try split) <;> omega), (by first | rfl | trivial | omega | assumption)⟩)))))), rfl, rfl⟩
                        · skip
                          refine x_iconst (pc := 139) K dX12_went_139 ?_
                          refine x_istore (pc := 140) K (L' := [(8, .int (zI 0)), (0, .ref (B + 161)), (1, .int (zI (rr : Int))), (2, .int (zI (ii : Int))), (3, .int (zI what)), (4, .int (zI (z1 : Int))), (5, .int (zI cn)), (6, .int (zI b)), (7, .int (zI (j : Int)))]) hnL (by decide) rfl dX12_went_140 ?_
                          have LOOP142 : ∀ (n_142 : Nat) (cn2 : Int) (b2 : Int) (k2 : Nat) (x2 : Nat → Int), (k2 ≤ 48) → (cn2 = wentC p l it z1 (48 * j + k2) ∧ b2 = wentB p l it z1 (48 * j + k2)) → (48 - k2) < n_142 → XW Γ N (va_up (va_up v 161 (oM B F V)) 173 (iarr E 138 x2)) [(0, .ref (B + 161)), (1, .int (zI (rr : Int))), (2, .int (zI (ii : Int))), (3, .int (zI what)), (4, .int (zI (z1 : Int))), (5, .int (zI cn2)), (6, .int (zI b2)), (7, .int (zI (j : Int))), (8, .int (zI (k2 : Int)))] 0 0 142 [] := by
                            intro n_142
                            induction n_142 with
                            | zero =>
                              intro cn2 b2 k2 x2 hi142_0 hi142_1 hm_142
                              exfalso; omega
                            | succ n_142 ih142 =>
                              intro cn2 b2 k2 x2 hi142_0 hi142_1 hm_142
                              have hj5 : j < 5 := by omega
                              have hcr := wentC_rng p l it z1 (48 * j + k2)
                              have hbr := wentB_rng p l it z1 (48 * j + k2) (by omega)
                              rw [← hi142_1.1] at hcr
                              rw [← hi142_1.2] at hbr
                              refine x_iload (pc := 142) 8 K rfl dX12_went_142 ?_
                              refine x_bipush (pc := 144) K (by decide) dX12_went_144 ?_
                              refine x_icmp_ge (pc := 146) (tgt := 232) K (by omega) (by decide) dX12_went_146 (by decide) (fun h_146 => ?_) (fun h_146 => ?_)
                              · skip
                                have hk48 : k2 = 48 := by omega
                                rw [hk48] at hi142_1
                                refine x_iinc (pc := 232) (L' := [(7, .int (zI ((j : Int) + 1))), (0, .ref (B + 161)), (1, .int (zI (rr : Int))), (2, .int (zI (ii : Int))), (3, .int (zI what)), (4, .int (zI (z1 : Int))), (5, .int (zI cn2)), (6, .int (zI b2)), (8, .int (zI (k2 : Int)))]) 7 K hnL rfl (by decide) rfl dX12_went_232 ?_
                                refine x_goto (pc := 235) (tgt := 128) K dX12_went_235 (by decide) ?_
                                refine x_sub (L' := [(0, .ref (B + 161)), (1, .int (zI (rr : Int))), (2, .int (zI (ii : Int))), (3, .int (zI what)), (4, .int (zI (z1 : Int))), (5, .int (zI cn2)), (6, .int (zI b2)), (7, .int (zI ((j : Int) + 1)))]) [1, 2, 3, 4, 5, 6, 7, 0] rfl ?_
                                exact ih128 cn2 b2 (j + 1) x2 (by omega) (by rw [show 48 * (j + 1) = 48 * j + 48 by omega]; exact hi142_1) (by omega)
                              · skip
                                refine x_aload_n (pc := 149) 0 K rfl rfl dX12_went_149 ?_
                                refine x_get (pc := 150) (C := RX12) (T := TX12) (n := 26) (ci := 11) (idx := 22) (ref := "BorderBedsModel") (x := .ref (B + 166))  K (cel_ne (cel_self hc0.1) (by decide)) rfl (by decide +kernel) 8 (by decide) (by decide +kernel) rfl rfl dX12_went_150 ?_
                                refine x_iload (pc := 153) 7 K rfl dX12_went_153 ?_
                                refine x_iload (pc := 155) 8 K rfl dX12_went_155 ?_
                                refine x_callS (pc := 157) (As := [.ref (B + 166), .int (zI (j : Int)), .int (zI (k2 : Int))]) K (c_X12_mayCross (E := E) (B := B) (N := N) (p := p) (l := l) (who := j) (cell := k2) rfl rfl (cel_ne (cel_ne hc1 (by decide)) (by decide)) hq0 hq1 hq2 (by omega) (by omega) (by omega)) gX12_went_X12_mayCross rfl (na := 3) (by decide +kernel) rfl ⟨(Nat.le_of_ble_eq_true rfl), (Nat.le_of_ble_eq_true rfl)⟩ (st := []) rfl (Nat.le_of_ble_eq_true rfl) ⟨(Nat.le_of_ble_eq_true rfl), (Nat.le_of_ble_eq_true rfl)⟩ dX12_went_157 (fun r157 N157 w157 hpo157 hN157 => ?_)
                                obtain ⟨rfl, rfl, rfl⟩ := hpo157
                                refine x_st (st' := [.int (zI (mayI p l j k2))]) rfl ?_
                                have hrg157 := mayI_rng p l j k2
                                refine x_if_ne (pc := 160) (tgt := 166) K (by omega) dX12_went_160 (by decide) (fun h_160 => ?_) (fun h_160 => ?_)
                                · skip
                                  have h_160 := mayI_t h_160
                                  have hmay := mayI_1 h_160
                                  have hok := crossA_ok (kind := p (5 + j)) (keeps := p 2) hq2 (show k2 ≤ 47 by omega)
                                  have hcl := crossA_len (kind := p (5 + j)) (cell := k2) hq3 hkp
                                  have hpr := cpI_PR (g := x2) (PR_0 hq0) (by omega)
                                  refine x_aload_n (pc := 166) 0 K rfl rfl dX12_went_166 ?_
                                  refine x_get (pc := 167) (C := RX12) (T := TX12) (n := 26) (ci := 11) (idx := 22) (ref := "BorderBedsModel") (x := .ref (B + 166))  K (cel_ne (cel_self hc0.1) (by decide)) rfl (by decide +kernel) 8 (by decide) (by decide +kernel) rfl rfl dX12_went_167 ?_
                                  refine x_iconst (pc := 170) K dX12_went_170 ?_
                                  refine x_aload_n (pc := 171) 0 K rfl rfl dX12_went_171 ?_
                                  refine x_get (pc := 172) (C := RX12) (T := TX12) (n := 26) (ci := 11) (idx := 44) (ref := "BorderBedsModel") (x := .ref (B + 173))  K (cel_ne (cel_self hc0.1) (by decide)) rfl (by decide +kernel) 24 (by decide) (by decide +kernel) rfl rfl dX12_went_172 ?_
                                  refine x_iconst (pc := 175) K dX12_went_175 ?_
                                  refine x_callS (pc := 176) (As := [.ref (B + 166), .int (zI 0), .ref (B + 173), .int (zI 0)]) K (c_X12_copies (E := E) (B := B) (N := N) (i := 0) (j := 0) rfl rfl (cel_ne (cel_ne hc1 (by decide)) (by decide)) (cel_self hc2.1) (by omega) (by omega) (by omega)) gX12_went_X12_copies rfl (na := 4) (by decide +kernel) rfl ⟨(Nat.le_of_ble_eq_true rfl), (Nat.le_of_ble_eq_true rfl)⟩ (st := []) rfl (Nat.le_of_ble_eq_true rfl) ⟨(Nat.le_of_ble_eq_true rfl), (Nat.le_of_ble_eq_true rfl)⟩ dX12_went_176 (fun r176 N176 w176 hpo176 hN176 => ?_)
                                  obtain ⟨rfl, rfl, rfl⟩ := hpo176
                                  refine x_v (w := (va_up (va_up v 161 (oM B F V)) 173 (iarr E 138 (cpI a x2 0 0 138)))) (up_at0).symm ?_
                                  refine x_st (st' := []) rfl ?_
                                  refine x_aload_n (pc := 179) 0 K rfl rfl dX12_went_179 ?_
                                  refine x_get (pc := 180) (C := RX12) (T := TX12) (n := 26) (ci := 11) (idx := 44) (ref := "BorderBedsModel") (x := .ref (B + 173))  K (cel_ne (cel_self hc0.1) (by decide)) rfl (by decide +kernel) 24 (by decide) (by decide +kernel) rfl rfl dX12_went_180 ?_
                                  refine x_iload (pc := 183) 7 K rfl dX12_went_183 ?_
                                  refine x_iload (pc := 185) 8 K rfl dX12_went_185 ?_
                                  refine x_callS (pc := 187) (As := [.ref (B + 173), .int (zI (j : Int)), .int (zI (k2 : Int))]) K (c_X12_crosses (E := E) (B := B) (N := N) (p := p) (l := l) (who := j) (cell := k2) rfl rfl (cel_self hc2.1) hpr hq1 hq2 (by omega) (by omega) (by omega)) gX12_went_X12_crosses rfl (na := 3) (by decide +kernel) rfl ⟨(Nat.le_of_ble_eq_true rfl), (Nat.le_of_ble_eq_true rfl)⟩ (st := []) rfl (Nat.le_of_ble_eq_true rfl) ⟨(Nat.le_of_ble_eq_true rfl), (Nat.le_of_ble_eq_true rfl)⟩ dX12_went_187 (fun r187 N187 w187 hpo187 hN187 => ?_)
                                  obtain ⟨rfl, g_187, hp187_0, rfl, rfl⟩ := hpo187
                                  refine x_v (w := (va_up (va_up v 161 (oM B F V)) 173 (iarr E 138 g_187))) (up_at0).symm ?_
                                  refine x_st (st' := []) rfl ?_
                                  refine x_aload_n (pc := 190) 0 K rfl rfl dX12_went_190 ?_
                                  refine x_aload_n (pc := 191) 0 K rfl rfl dX12_went_191 ?_
                                  refine x_get (pc := 192) (C := RX12) (T := TX12) (n := 26) (ci := 11) (idx := 44) (ref := "BorderBedsModel") (x := .ref (B + 173))  K (cel_ne (cel_self hc0.1) (by decide)) rfl (by decide +kernel) 24 (by decide) (by decide +kernel) rfl rfl dX12_went_192 ?_
                                  refine x_iload (pc := 195) 4 K rfl dX12_went_195 ?_
                                  refine x_callV (pc := 197) (C := RX12) (T := TX12) (n := 26) (ci := 11) (As := [.ref (B + 173), .int (zI (z1 : Int))]) K (c_X12_isSo (E := E) (B := B) (N := N) (p := p) (l := (crossA (p (5 + j)) (p 2) k2 l)) (o := z1) rfl (cel_ne (cel_self hc0.1) (by decide)) (cel_self hc2.1) (cel_ne (cel_ne hc4 (by decide)) (by decide)) hp187_0 hq1 hok hcl (by omega) hq9) gX12_went_X12_isSo rfl (na := 2) (by decide +kernel) rfl ⟨(Nat.le_of_ble_eq_true rfl), (Nat.le_of_ble_eq_true rfl)⟩ (cel_ne (cel_self hc0.1) (by decide)) rfl (st := []) rfl (Nat.le_of_ble_eq_true rfl) ⟨(Nat.le_of_ble_eq_true rfl), (Nat.le_of_ble_eq_true rfl)⟩ dX12_went_197 (fun r197 N197 w197 hpo197 hN197 => ?_)
                                  obtain ⟨rfl, rfl, rfl⟩ := hpo197
                                  refine x_st (st' := [.int (zI (isSoF p (crossA (p (5 + j)) (p 2) k2 l) it z1 8))]) rfl ?_
                                  have hrg197 := isSoF_rng p (crossA (p (5 + j)) (p 2) k2 l) it z1 8
                                  refine x_if_eq (pc := 200) (tgt := 226) K (by omega) dX12_went_200 (by decide) (fun h_200 => ?_) (fun h_200 => ?_)
                                  · skip
                                    have hI : wentI p l it z1 (48 * j + k2) = 0 := by rw [wentI_at (by omega)]; exact if_neg (by omega)
                                    refine x_iinc (pc := 226) (L' := [(8, .int (zI ((k2 : Int) + 1))), (0, .ref (B + 161)), (1, .int (zI (rr : Int))), (2, .int (zI (ii : Int))), (3, .int (zI what)), (4, .int (zI (z1 : Int))), (5, .int (zI cn2)), (6, .int (zI b2)), (7, .int (zI (j : Int)))]) 8 K hnL rfl (by decide) rfl dX12_went_226 ?_
                                    refine x_goto (pc := 229) (tgt := 142) K dX12_went_229 (by decide) ?_
                                    refine x_sub (L' := [(0, .ref (B + 161)), (1, .int (zI (rr : Int))), (2, .int (zI (ii : Int))), (3, .int (zI what)), (4, .int (zI (z1 : Int))), (5, .int (zI cn2)), (6, .int (zI b2)), (7, .int (zI (j : Int))), (8, .int (zI ((k2 : Int) + 1)))]) [1, 2, 3, 4, 5, 6, 7, 8, 0] rfl ?_
                                    exact ih142 cn2 b2 (k2 + 1) g_187 (by omega) (by first | exact went_no hi142_1 hI | exact ⟨hgo.1, Eq.trans (by rw [if_pos (by omega)]; omega) hgo.2⟩ | exact ⟨hgo.1, Eq.trans (by rw [if_neg (by omega)]) hgo.2⟩) (by omega)
                                  · skip
                                    have hI : wentI p l it z1 (48 * j + k2) = 1 := by rw [wentI_at (by omega)]; exact if_pos ⟨hmay, by omega⟩
                                    have hgo := went_yes hi142_1 hI
                                    refine x_iload (pc := 203) 5 K rfl dX12_went_203 ?_
                                    refine x_if_ne (pc := 205) (tgt := 219) K (by omega) dX12_went_205 (by decide) (fun h_205 => ?_) (fun h_205 => ?_)
                                    · skip
                                      refine x_iload (pc := 219) 6 K rfl dX12_went_219 ?_
                                      refine x_istore (pc := 221) K (L' := [(6, .int (zI b2)), (0, .ref (B + 161)), (1, .int (zI (rr : Int))), (2, .int (zI (ii : Int))), (3, .int (zI what)), (4, .int (zI (z1 : Int))), (5, .int (zI cn2)), (7, .int (zI (j : Int))), (8, .int (zI (k2 : Int)))]) hnL (by decide) rfl dX12_went_221 ?_
                                      refine x_iinc (pc := 223) (L' := [(5, .int (zI (cn2 + 1))), (6, .int (zI b2)), (0, .ref (B + 161)), (1, .int (zI (rr : Int))), (2, .int (zI (ii : Int))), (3, .int (zI what)), (4, .int (zI (z1 : Int))), (7, .int (zI (j : Int))), (8, .int (zI (k2 : Int)))]) 6 K hnL rfl (by decide) rfl dX12_went_223 ?_
                                      refine x_iinc (pc := 226) (L' := [(8, .int (zI ((k2 : Int) + 1))), (5, .int (zI (cn2 + 1))), (6, .int (zI b2)), (0, .ref (B + 161)), (1, .int (zI (rr : Int))), (2, .int (zI (ii : Int))), (3, .int (zI what)), (4, .int (zI (z1 : Int))), (7, .int (zI (j : Int)))]) 8 K hnL rfl (by decide) rfl dX12_went_226 ?_
                                      refine x_goto (pc := 229) (tgt := 142) K dX12_went_229 (by decide) ?_
                                      refine x_sub (L' := [(0, .ref (B + 161)), (1, .int (zI (rr : Int))), (2, .int (zI (ii : Int))), (3, .int (zI what)), (4, .int (zI (z1 : Int))), (5, .int (zI (cn2 + 1))), (6, .int (zI b2)), (7, .int (zI (j : Int))), (8, .int (zI ((k2 : Int) + 1)))]) [3, 4, 5, 6, 7, 1, 2, 8, 0] rfl ?_
                                      exact ih142 (cn2 + 1) b2 (k2 + 1) g_187 (by omega) (by first | exact went_no hi142_1 hI | exact ⟨hgo.1, Eq.trans (by rw [if_pos (by omega)]; omega) hgo.2⟩ | exact ⟨hgo.1, Eq.trans (by rw [if_neg (by omega)]) hgo.2⟩) (by omega)
                                    · skip
                                      refine x_bipush (pc := 208) K (by decide) dX12_went_208 ?_
                                      refine x_iload (pc := 210) 7 K rfl dX12_went_210 ?_
                                      refine x_imul (pc := 212) K dX12_went_212 ?_
                                      refine x_iload (pc := 213) 8 K rfl dX12_went_213 ?_
                                      refine x_iadd (pc := 215) K dX12_went_215 ?_
                                      refine x_goto (pc := 216) (tgt := 221) K dX12_went_216 (by decide) ?_
                                      refine x_nmN (m := ((48 * j) + k2)) (by omega) (fun z2 hz2 => ?_)
                                      refine x_istore (pc := 221) K (L' := [(6, .int (zI (z2 : Int))), (0, .ref (B + 161)), (1, .int (zI (rr : Int))), (2, .int (zI (ii : Int))), (3, .int (zI what)), (4, .int (zI (z1 : Int))), (5, .int (zI cn2)), (7, .int (zI (j : Int))), (8, .int (zI (k2 : Int)))]) hnL (by decide) rfl dX12_went_221 ?_
                                      refine x_iinc (pc := 223) (L' := [(5, .int (zI (cn2 + 1))), (6, .int (zI (z2 : Int))), (0, .ref (B + 161)), (1, .int (zI (rr : Int))), (2, .int (zI (ii : Int))), (3, .int (zI what)), (4, .int (zI (z1 : Int))), (7, .int (zI (j : Int))), (8, .int (zI (k2 : Int)))]) 6 K hnL rfl (by decide) rfl dX12_went_223 ?_
                                      refine x_iinc (pc := 226) (L' := [(8, .int (zI ((k2 : Int) + 1))), (5, .int (zI (cn2 + 1))), (6, .int (zI (z2 : Int))), (0, .ref (B + 161)), (1, .int (zI (rr : Int))), (2, .int (zI (ii : Int))), (3, .int (zI what)), (4, .int (zI (z1 : Int))), (7, .int (zI (j : Int)))]) 8 K hnL rfl (by decide) rfl dX12_went_226 ?_
                                      refine x_goto (pc := 229) (tgt := 142) K dX12_went_229 (by decide) ?_
                                      refine x_sub (L' := [(0, .ref (B + 161)), (1, .int (zI (rr : Int))), (2, .int (zI (ii : Int))), (3, .int (zI what)), (4, .int (zI (z1 : Int))), (5, .int (zI (cn2 + 1))), (6, .int (zI (z2 : Int))), (7, .int (zI (j : Int))), (8, .int (zI ((k2 : Int) + 1)))]) [3, 4, 5, 6, 7, 1, 2, 8, 0] rfl ?_
                                      exact ih142 (cn2 + 1) (z2 : Int) (k2 + 1) g_187 (by omega) (by first | exact went_no hi142_1 hI | exact ⟨hgo.1, Eq.trans (by rw [if_pos (by omega)]; omega) hgo.2⟩ | exact ⟨hgo.1, Eq.trans (by rw [if_neg (by omega)]) hgo.2⟩) (by omega)
                                · skip
                                  have h_160 := mayI_f h_160
                                  have hmay := mayI_0 h_160
                                  have hI : wentI p l it z1 (48 * j + k2) = 0 := by rw [wentI_at (by omega)]; exact if_neg (by omega)
                                  refine x_goto (pc := 163) (tgt := 226) K dX12_went_163 (by decide) ?_
                                  refine x_iinc (pc := 226) (L' := [(8, .int (zI ((k2 : Int) + 1))), (0, .ref (B + 161)), (1, .int (zI (rr : Int))), (2, .int (zI (ii : Int))), (3, .int (zI what)), (4, .int (zI (z1 : Int))), (5, .int (zI cn2)), (6, .int (zI b2)), (7, .int (zI (j : Int)))]) 8 K hnL rfl (by decide) rfl dX12_went_226 ?_
                                  refine x_goto (pc := 229) (tgt := 142) K dX12_went_229 (by decide) ?_
                                  refine x_sub (L' := [(0, .ref (B + 161)), (1, .int (zI (rr : Int))), (2, .int (zI (ii : Int))), (3, .int (zI what)), (4, .int (zI (z1 : Int))), (5, .int (zI cn2)), (6, .int (zI b2)), (7, .int (zI (j : Int))), (8, .int (zI ((k2 : Int) + 1)))]) [1, 2, 3, 4, 5, 6, 7, 8, 0] rfl ?_
                                  exact ih142 cn2 b2 (k2 + 1) x2 (by omega) (by first | exact went_no hi142_1 hI | exact ⟨hgo.1, Eq.trans (by rw [if_pos (by omega)]; omega) hgo.2⟩ | exact ⟨hgo.1, Eq.trans (by rw [if_neg (by omega)]) hgo.2⟩) (by omega)
                          refine x_sub (L' := [(0, .ref (B + 161)), (1, .int (zI (rr : Int))), (2, .int (zI (ii : Int))), (3, .int (zI what)), (4, .int (zI (z1 : Int))), (5, .int (zI cn)), (6, .int (zI b)), (7, .int (zI (j : Int))), (8, .int (zI 0))]) [1, 2, 3, 4, 5, 6, 7, 8, 0] rfl ?_
                          exact LOOP142 (_) cn b 0 x1 (by omega) (by exact hi128_1) (Nat.lt_succ_self _)
                    refine x_sub (L' := [(0, .ref (B + 161)), (1, .int (zI (rr : Int))), (2, .int (zI (ii : Int))), (3, .int (zI what)), (4, .int (zI (z1 : Int))), (5, .int (zI 0)), (6, .int (zI (-1000000))), (7, .int (zI 0))]) [3, 4, 5, 6, 7, 2, 1, 0] rfl ?_
                    exact LOOP128 (_) 0 (-1000000) 0 t (by omega) (by exact ⟨rfl, rfl⟩) (Nat.lt_succ_self _)
                  · skip
                    have b97 := hq9 (z1 + k) (by omega)
                    refine x_aload_n (pc := 88) 0 K rfl rfl dX12_went_88 ?_
                    refine x_get (pc := 89) (C := RX12) (T := TX12) (n := 26) (ci := 11) (idx := 16) (ref := "BorderBedsModel") (x := .ref (B + 164))  K (cel_ne (cel_self hc0.1) (by decide)) rfl (by decide +kernel) 2 (by decide) (by decide +kernel) rfl rfl dX12_went_89 ?_
                    refine x_iload (pc := 92) 4 K rfl dX12_went_92 ?_
                    refine x_iload (pc := 94) 5 K rfl dX12_went_94 ?_
                    refine x_iadd (pc := 96) K dX12_went_96 ?_
                    refine x_iald (pc := 97) (z1 + k) K (cel_ne (cel_ne hc4 (by decide)) (by decide)) (by omega) (by omega) (by decide) dX12_went_97 ?_
                    refine x_i2l (pc := 98) K (by omega) dX12_went_98 ?_
                    refine x_lconst (pc := 99) (0) K (by decide) dX12_went_99 ?_
                    refine x_ldc2 (pc := 100) (x := (6)) (6) K (by decide) (by decide +kernel) dX12_went_100 ?_
                    refine x_callS (pc := 103) (As := [.long (zL (it (z1 + k))), .long (zL 0), .long (zL 6)]) K (c_X12_in (E := E) (B := B) (N := N)    (by omega) (by omega) (by omega)) gX12_went_X12_in rfl (na := 3) (by decide +kernel) rfl ⟨(Nat.le_of_ble_eq_true rfl), (Nat.le_of_ble_eq_true rfl)⟩ (st := []) rfl (Nat.le_of_ble_eq_true rfl) ⟨(Nat.le_of_ble_eq_true rfl), (Nat.le_of_ble_eq_true rfl)⟩ dX12_went_103 (fun r103 N103 w103 hpo103 hN103 => ?_)
                    obtain ⟨rfl, rfl, rfl⟩ := hpo103
                    refine x_st (st' := [.int (zI (bI (0 ≤ (it (z1 + k)) ∧ (it (z1 + k)) ≤ 6)))]) rfl ?_
                    have hrg103 := bI_rng (0 ≤ (it (z1 + k)) ∧ (it (z1 + k)) ≤ 6)
                    refine x_if_ne (pc := 106) (tgt := 112) K (by omega) dX12_went_106 (by decide) (fun h_106 => ?_) (fun h_106 => ?_)
                    · skip
                      have h_106 := bI_f h_106
                      refine x_iinc (pc := 112) (L' := [(5, .int (zI ((k : Int) + 1))), (0, .ref (B + 161)), (1, .int (zI (rr : Int))), (2, .int (zI (ii : Int))), (3, .int (zI what)), (4, .int (zI (z1 : Int)))]) 5 K hnL rfl (by decide) rfl dX12_went_112 ?_
                      refine x_goto (pc := 115) (tgt := 81) K dX12_went_115 (by decide) ?_
                      refine x_sub (L' := [(0, .ref (B + 161)), (1, .int (zI (rr : Int))), (2, .int (zI (ii : Int))), (3, .int (zI what)), (4, .int (zI (z1 : Int))), (5, .int (zI ((k : Int) + 1)))]) [1, 2, 3, 4, 5, 0] rfl ?_
                      exact ih81 (k + 1) (by omega) (by exact rowOk_yes hi81_1 (by omega)) (by omega)
                    · skip
                      have h_106 := bI_t h_106
                      have hbad := rowOk_8 (o := z1) (show k < 8 by omega) (by omega)
                      refine x_ldc (pc := 109) (x := (-1000001)) (-1000001) K (by decide) (by decide +kernel) dX12_went_109 ?_
                      refine x_iret (pc := 111) K KR (by omega) (Nat.le_of_ble_eq_true rfl) (Nat.le_of_ble_eq_true rfl) dX12_went_111 ?_
                      subst hz1
                      exact ⟨rfl, (-1000001), F, t, (by (try simp only [Int.toNat_natCast]); first | exact Or.inl ⟨(by first | rfl | trivial | omega | assumption), (by first | rfl | trivial | omega | assumption), (by first | rfl | trivial | omega | assumption)⟩ | exact Or.inr (Or.inl ⟨(by first | rfl | trivial | omega | assumption), (by first | rfl | trivial | omega | assumption), (by first | rfl | trivial | omega | assumption), (by first | rfl | trivial | omega | assumption)⟩) | exact Or.inr (Or.inr (Or.inl ⟨(by first | rfl | trivial | omega | assumption), (by first | rfl | trivial | omega | assumption), (by first | rfl | trivial | omega | assumption), (by first | rfl | trivial | omega | assumption), (by first | rfl | trivial | omega | assumption)⟩)) | exact Or.inr (Or.inr (Or.inr (Or.inl ⟨(by first | rfl | trivial | omega | assumption), (by first | rfl | trivial | omega | assumption), (by first | rfl | trivial | omega | assumption), (by first | rfl | trivial | omega | assumption), (by first | rfl | trivial | omega | assumption), (by first | rfl | trivial | omega | assumption)⟩))) | exact Or.inr (Or.inr (Or.inr (Or.inr (Or.inl ⟨(by first | rfl | trivial | omega | assumption), (by first | rfl | trivial | omega | assumption), (by first | rfl | trivial | omega | assumption), (by first | rfl | trivial | omega | assumption), (by assumption), (by first | rfl | trivial | omega | assumption), (by first | rfl | trivial | omega | assumption)⟩)))) | exact Or.inr (Or.inr (Or.inr (Or.inr (Or.inr (⟨(by first | rfl | trivial | omega | assumption), (by first | rfl | trivial | omega | assumption), (by first | rfl | trivial | omega | assumption), (by first | rfl | trivial | omega | assumption), (by assumption), (by split <;> (try split) <;> omega), (by first | rfl | trivial | omega | assumption)⟩)))))), rfl, rfl⟩
              refine x_sub (L' := [(0, .ref (B + 161)), (1, .int (zI (rr : Int))), (2, .int (zI (ii : Int))), (3, .int (zI what)), (4, .int (zI (z1 : Int))), (5, .int (zI 0))]) [2, 3, 4, 5, 1, 0] rfl ?_
              exact LOOP81 (_) 0 (by omega) (by rfl) (Nat.lt_succ_self _)
            · skip
              refine x_aload_n (pc := 64) 0 K rfl rfl dX12_went_64 ?_
              refine x_iconst (pc := 65) K dX12_went_65 ?_
              refine x_callV (pc := 66) (C := RX12) (T := TX12) (n := 26) (ci := 11) (As := [.int (zI 2)]) K (c_X12_found (E := E) (B := B) (N := N)   (cel_ne (cel_self hc0.1) (by decide)) ) gX12_went_X12_found rfl (na := 1) (by decide +kernel) rfl ⟨(Nat.le_of_ble_eq_true rfl), (Nat.le_of_ble_eq_true rfl)⟩ (cel_ne (cel_self hc0.1) (by decide)) rfl (st := []) rfl (Nat.le_of_ble_eq_true rfl) ⟨(Nat.le_of_ble_eq_true rfl), (Nat.le_of_ble_eq_true rfl)⟩ dX12_went_66 (fun r66 N66 w66 hpo66 hN66 => ?_)
              obtain ⟨rfl, rfl, rfl⟩ := hpo66
              refine x_v (w := (va_up (va_up v 161 (oM B (va_up F 3 2) V)) 173 (iarr E 138 t))) (up_at1 (by decide)).symm ?_
              refine x_st (st' := [.int (zI (-1000010 - 2))]) rfl ?_
              refine x_iret (pc := 69) K KR (by omega) (Nat.le_of_ble_eq_true rfl) (Nat.le_of_ble_eq_true rfl) dX12_went_69 ?_
              exact ⟨rfl, (-1000010 - 2), (va_up F 3 2), t, (by (try simp only [Int.toNat_natCast]); first | exact Or.inl ⟨(by first | rfl | trivial | omega | assumption), (by first | rfl | trivial | omega | assumption), (by first | rfl | trivial | omega | assumption)⟩ | exact Or.inr (Or.inl ⟨(by first | rfl | trivial | omega | assumption), (by first | rfl | trivial | omega | assumption), (by first | rfl | trivial | omega | assumption), (by first | rfl | trivial | omega | assumption)⟩) | exact Or.inr (Or.inr (Or.inl ⟨(by first | rfl | trivial | omega | assumption), (by first | rfl | trivial | omega | assumption), (by first | rfl | trivial | omega | assumption), (by first | rfl | trivial | omega | assumption), (by first | rfl | trivial | omega | assumption)⟩)) | exact Or.inr (Or.inr (Or.inr (Or.inl ⟨(by first | rfl | trivial | omega | assumption), (by first | rfl | trivial | omega | assumption), (by first | rfl | trivial | omega | assumption), (by first | rfl | trivial | omega | assumption), (by first | rfl | trivial | omega | assumption), (by first | rfl | trivial | omega | assumption)⟩))) | exact Or.inr (Or.inr (Or.inr (Or.inr (Or.inl ⟨(by first | rfl | trivial | omega | assumption), (by first | rfl | trivial | omega | assumption), (by first | rfl | trivial | omega | assumption), (by first | rfl | trivial | omega | assumption), (by assumption), (by first | rfl | trivial | omega | assumption), (by first | rfl | trivial | omega | assumption)⟩)))) | exact Or.inr (Or.inr (Or.inr (Or.inr (Or.inr (⟨(by first | rfl | trivial | omega | assumption), (by first | rfl | trivial | omega | assumption), (by first | rfl | trivial | omega | assumption), (by first | rfl | trivial | omega | assumption), (by assumption), (by split <;> (try split) <;> omega), (by first | rfl | trivial | omega | assumption)⟩)))))), rfl, rfl⟩
        · skip
          refine x_aload_n (pc := 41) 0 K rfl rfl dX12_went_41 ?_
          refine x_iconst (pc := 42) K dX12_went_42 ?_
          refine x_callV (pc := 43) (C := RX12) (T := TX12) (n := 26) (ci := 11) (As := [.int (zI 1)]) K (c_X12_found (E := E) (B := B) (N := N)   (cel_ne (cel_self hc0.1) (by decide)) ) gX12_went_X12_found rfl (na := 1) (by decide +kernel) rfl ⟨(Nat.le_of_ble_eq_true rfl), (Nat.le_of_ble_eq_true rfl)⟩ (cel_ne (cel_self hc0.1) (by decide)) rfl (st := []) rfl (Nat.le_of_ble_eq_true rfl) ⟨(Nat.le_of_ble_eq_true rfl), (Nat.le_of_ble_eq_true rfl)⟩ dX12_went_43 (fun r43 N43 w43 hpo43 hN43 => ?_)
          obtain ⟨rfl, rfl, rfl⟩ := hpo43
          refine x_v (w := (va_up (va_up v 161 (oM B (va_up F 3 1) V)) 173 (iarr E 138 t))) (up_at1 (by decide)).symm ?_
          refine x_st (st' := [.int (zI (-1000010 - 1))]) rfl ?_
          refine x_iret (pc := 46) K KR (by omega) (Nat.le_of_ble_eq_true rfl) (Nat.le_of_ble_eq_true rfl) dX12_went_46 ?_
          exact ⟨rfl, (-1000010 - 1), (va_up F 3 1), t, (by (try simp only [Int.toNat_natCast]); first | exact Or.inl ⟨(by first | rfl | trivial | omega | assumption), (by first | rfl | trivial | omega | assumption), (by first | rfl | trivial | omega | assumption)⟩ | exact Or.inr (Or.inl ⟨(by first | rfl | trivial | omega | assumption), (by first | rfl | trivial | omega | assumption), (by first | rfl | trivial | omega | assumption), (by first | rfl | trivial | omega | assumption)⟩) | exact Or.inr (Or.inr (Or.inl ⟨(by first | rfl | trivial | omega | assumption), (by first | rfl | trivial | omega | assumption), (by first | rfl | trivial | omega | assumption), (by first | rfl | trivial | omega | assumption), (by first | rfl | trivial | omega | assumption)⟩)) | exact Or.inr (Or.inr (Or.inr (Or.inl ⟨(by first | rfl | trivial | omega | assumption), (by first | rfl | trivial | omega | assumption), (by first | rfl | trivial | omega | assumption), (by first | rfl | trivial | omega | assumption), (by first | rfl | trivial | omega | assumption), (by first | rfl | trivial | omega | assumption)⟩))) | exact Or.inr (Or.inr (Or.inr (Or.inr (Or.inl ⟨(by first | rfl | trivial | omega | assumption), (by first | rfl | trivial | omega | assumption), (by first | rfl | trivial | omega | assumption), (by first | rfl | trivial | omega | assumption), (by assumption), (by first | rfl | trivial | omega | assumption), (by first | rfl | trivial | omega | assumption)⟩)))) | exact Or.inr (Or.inr (Or.inr (Or.inr (Or.inr (⟨(by first | rfl | trivial | omega | assumption), (by first | rfl | trivial | omega | assumption), (by first | rfl | trivial | omega | assumption), (by first | rfl | trivial | omega | assumption), (by assumption), (by split <;> (try split) <;> omega), (by first | rfl | trivial | omega | assumption)⟩)))))), rfl, rfl⟩
      · skip
        have h_26 := bI_t h_26
        refine x_ldc (pc := 29) (x := (-1000001)) (-1000001) K (by decide) (by decide +kernel) dX12_went_29 ?_
        refine x_iret (pc := 31) K KR (by omega) (Nat.le_of_ble_eq_true rfl) (Nat.le_of_ble_eq_true rfl) dX12_went_31 ?_
        exact ⟨rfl, (-1000001), F, t, (by (try simp only [Int.toNat_natCast]); first | exact Or.inl ⟨(by first | rfl | trivial | omega | assumption), (by first | rfl | trivial | omega | assumption), (by first | rfl | trivial | omega | assumption)⟩ | exact Or.inr (Or.inl ⟨(by first | rfl | trivial | omega | assumption), (by first | rfl | trivial | omega | assumption), (by first | rfl | trivial | omega | assumption), (by first | rfl | trivial | omega | assumption)⟩) | exact Or.inr (Or.inr (Or.inl ⟨(by first | rfl | trivial | omega | assumption), (by first | rfl | trivial | omega | assumption), (by first | rfl | trivial | omega | assumption), (by first | rfl | trivial | omega | assumption), (by first | rfl | trivial | omega | assumption)⟩)) | exact Or.inr (Or.inr (Or.inr (Or.inl ⟨(by first | rfl | trivial | omega | assumption), (by first | rfl | trivial | omega | assumption), (by first | rfl | trivial | omega | assumption), (by first | rfl | trivial | omega | assumption), (by first | rfl | trivial | omega | assumption), (by first | rfl | trivial | omega | assumption)⟩))) | exact Or.inr (Or.inr (Or.inr (Or.inr (Or.inl ⟨(by first | rfl | trivial | omega | assumption), (by first | rfl | trivial | omega | assumption), (by first | rfl | trivial | omega | assumption), (by first | rfl | trivial | omega | assumption), (by assumption), (by first | rfl | trivial | omega | assumption), (by first | rfl | trivial | omega | assumption)⟩)))) | exact Or.inr (Or.inr (Or.inr (Or.inr (Or.inr (⟨(by first | rfl | trivial | omega | assumption), (by first | rfl | trivial | omega | assumption), (by first | rfl | trivial | omega | assumption), (by first | rfl | trivial | omega | assumption), (by assumption), (by split <;> (try split) <;> omega), (by first | rfl | trivial | omega | assumption)⟩)))))), rfl, rfl⟩
  · skip
    refine x_ldc (pc := 7) (x := (-1000002)) (-1000002) K (by decide) (by decide +kernel) dX12_went_7 ?_
    refine x_iret (pc := 9) K KR (by omega) (Nat.le_of_ble_eq_true rfl) (Nat.le_of_ble_eq_true rfl) dX12_went_9 ?_
    exact ⟨rfl, (-1000002), F, t, (by (try simp only [Int.toNat_natCast]); first | exact Or.inl ⟨(by first | rfl | trivial | omega | assumption), (by first | rfl | trivial | omega | assumption), (by first | rfl | trivial | omega | assumption)⟩ | exact Or.inr (Or.inl ⟨(by first | rfl | trivial | omega | assumption), (by first | rfl | trivial | omega | assumption), (by first | rfl | trivial | omega | assumption), (by first | rfl | trivial | omega | assumption)⟩) | exact Or.inr (Or.inr (Or.inl ⟨(by first | rfl | trivial | omega | assumption), (by first | rfl | trivial | omega | assumption), (by first | rfl | trivial | omega | assumption), (by first | rfl | trivial | omega | assumption), (by first | rfl | trivial | omega | assumption)⟩)) | exact Or.inr (Or.inr (Or.inr (Or.inl ⟨(by first | rfl | trivial | omega | assumption), (by first | rfl | trivial | omega | assumption), (by first | rfl | trivial | omega | assumption), (by first | rfl | trivial | omega | assumption), (by first | rfl | trivial | omega | assumption), (by first | rfl | trivial | omega | assumption)⟩))) | exact Or.inr (Or.inr (Or.inr (Or.inr (Or.inl ⟨(by first | rfl | trivial | omega | assumption), (by first | rfl | trivial | omega | assumption), (by first | rfl | trivial | omega | assumption), (by first | rfl | trivial | omega | assumption), (by assumption), (by first | rfl | trivial | omega | assumption), (by first | rfl | trivial | omega | assumption)⟩)))) | exact Or.inr (Or.inr (Or.inr (Or.inr (Or.inr (⟨(by first | rfl | trivial | omega | assumption), (by first | rfl | trivial | omega | assumption), (by first | rfl | trivial | omega | assumption), (by first | rfl | trivial | omega | assumption), (by assumption), (by split <;> (try split) <;> omega), (by first | rfl | trivial | omega | assumption)⟩)))))), rfl, rfl⟩

set_option maxRecDepth 100000 in
set_option maxHeartbeats 4000000 in
theorem c_X12_copy {E : XE} {B N : Nat} {v : Nat → va_E} {F la sz it : Nat → Int} {V a i b j n : Int} (hc0 : Cel N v 161 (oM B F V)) (hc1 : Cel N v 162 (iarr E 8 la)) (hc2 : Cel N v 163 (iarr E 8 sz)) (hc3 : Cel N v 164 (iarr E 320 it)) (hq0 : (-2147483648 ≤ a ∧ a ≤ 2147483647)) (hq1 : (-2147483648 ≤ i ∧ i ≤ 2147483647)) (hq2 : (-2147483648 ≤ b ∧ b ≤ 2147483647)) (hq3 : (-2147483648 ≤ j ∧ j ≤ 2147483647)) (hq4 : (-2147483648 ≤ n ∧ n ≤ 2147483647)) (hq5 : ∀ k, k < 8 → -1 ≤ sz k ∧ sz k ≤ 40) (hq6 : ∀ k, k < 8 → 0 ≤ la k ∧ la k ≤ 2) : gM yX12_copy wsX12_copy ({ frames := 2, cells := 0, slots := 0, locals := 45 }) E B N v [.ref (B + 161), .int (zI a), .int (zI i), .int (zI b), .int (zI j), .int (zI n)] (po0 N (fun ρ v' => ∃ (res : Int), ∃ (F2 : Nat → Int), ∃ (it2 : Nat → Int), ((¬ (0 ≤ a ∧ a ≤ 7 ∧ 0 ≤ b ∧ b ≤ 7) ∧ res = -1000001 ∧ F2 = F ∧ it2 = it) ∨ ((0 ≤ a ∧ a ≤ 7 ∧ 0 ≤ b ∧ b ≤ 7) ∧ ¬ (0 ≤ sz a.toNat ∧ 0 ≤ sz b.toNat) ∧ res = -1000011 ∧ F2 = va_up F 3 1 ∧ it2 = it) ∨ ((0 ≤ a ∧ a ≤ 7 ∧ 0 ≤ b ∧ b ≤ 7) ∧ (0 ≤ sz a.toNat ∧ 0 ≤ sz b.toNat) ∧ la a.toNat ≠ la b.toNat ∧ res = -1000015 ∧ F2 = va_up F 3 5 ∧ it2 = it) ∨ ((0 ≤ a ∧ a ≤ 7 ∧ 0 ≤ b ∧ b ≤ 7) ∧ (0 ≤ sz a.toNat ∧ 0 ≤ sz b.toNat) ∧ la a.toNat = la b.toNat ∧ ¬ (0 ≤ i ∧ 0 ≤ j ∧ 0 ≤ n ∧ i + n ≤ sz a.toNat ∧ j + n ≤ sz b.toNat) ∧ res = -1000012 ∧ F2 = va_up F 3 2 ∧ it2 = it) ∨ ((0 ≤ a ∧ a ≤ 7 ∧ 0 ≤ b ∧ b ≤ 7) ∧ (0 ≤ sz a.toNat ∧ 0 ≤ sz b.toNat) ∧ la a.toNat = la b.toNat ∧ (0 ≤ i ∧ 0 ≤ j ∧ 0 ≤ n ∧ i + n ≤ sz a.toNat ∧ j + n ≤ sz b.toNat) ∧ res = n ∧ F2 = va_up F 3 0 ∧ it2 = cpI it it (40 * a.toNat + i.toNat) (40 * b.toNat + j.toNat) n.toNat)) ∧ ρ = some (.int (zI res)) ∧ (va_up (va_up v 161 (oM B F2 V)) 164 (iarr E 320 it2)) = v')) := by
  refine x_met (nm := "copy") (by decide +kernel) rfl (Nat.le_of_ble_eq_true rfl) rfl (fun Γ K KR hnL hnm => ?_)
  show XW Γ N v [(0, .ref (B + 161)), (1, .int (zI a)), (2, .int (zI i)), (3, .int (zI b)), (4, .int (zI j)), (5, .int (zI n))] 0 0 0 []
  refine x_v (cel_pad hc0) ?_
  refine x_v (cel_pad (cel_ne hc3 (by decide))) ?_
  refine x_iload_n (pc := 0) 1 K rfl rfl dX12_copy_0 ?_
  refine x_callS (pc := 1) (As := [.int (zI a)]) K (c_X12_isRow (E := E) (B := B) (N := N)    (by omega)) gX12_copy_X12_isRow rfl (na := 1) (by decide +kernel) rfl ⟨(Nat.le_of_ble_eq_true rfl), (Nat.le_of_ble_eq_true rfl)⟩ (st := []) rfl (Nat.le_of_ble_eq_true rfl) ⟨(Nat.le_of_ble_eq_true rfl), (Nat.le_of_ble_eq_true rfl)⟩ dX12_copy_1 (fun r1 N1 w1 hpo1 hN1 => ?_)
  obtain ⟨rfl, rfl, rfl⟩ := hpo1
  refine x_st (st' := [.int (zI (bI (0 ≤ a ∧ a ≤ 7)))]) rfl ?_
  have hrg1 := bI_rng (0 ≤ a ∧ a ≤ 7)
  refine x_if_eq (pc := 4) (tgt := 14) K (by omega) dX12_copy_4 (by decide) (fun h_4 => ?_) (fun h_4 => ?_)
  · skip
    have h_4 := bI_t h_4
    refine x_ldc (pc := 14) (x := (-1000001)) (-1000001) K (by decide) (by decide +kernel) dX12_copy_14 ?_
    refine x_iret (pc := 16) K KR (by omega) (Nat.le_of_ble_eq_true rfl) (Nat.le_of_ble_eq_true rfl) dX12_copy_16 ?_
    exact ⟨rfl, (-1000001), F, it, (by (try simp only [Int.toNat_natCast]); first | exact Or.inl ⟨(by first | rfl | trivial | omega | assumption), (by first | rfl | trivial | omega | assumption), (by first | rfl | trivial | omega | assumption), (by first | rfl | trivial | omega | assumption)⟩ | exact Or.inr (Or.inl ⟨(by first | rfl | trivial | omega | assumption), (by first | rfl | trivial | omega | assumption), (by first | rfl | trivial | omega | assumption), (by first | rfl | trivial | omega | assumption), (by first | rfl | trivial | omega | assumption)⟩) | exact Or.inr (Or.inr (Or.inl ⟨(by first | rfl | trivial | omega | assumption), (by first | rfl | trivial | omega | assumption), (by first | rfl | trivial | omega | assumption), (by first | rfl | trivial | omega | assumption), (by first | rfl | trivial | omega | assumption), (by first | rfl | trivial | omega | assumption)⟩)) | exact Or.inr (Or.inr (Or.inr (Or.inl ⟨(by first | rfl | trivial | omega | assumption), (by first | rfl | trivial | omega | assumption), (by first | rfl | trivial | omega | assumption), (by first | rfl | trivial | omega | assumption), (by first | rfl | trivial | omega | assumption), (by first | rfl | trivial | omega | assumption), (by first | rfl | trivial | omega | assumption)⟩))) | exact Or.inr (Or.inr (Or.inr (Or.inr (⟨(by first | rfl | trivial | omega | assumption), (by first | rfl | trivial | omega | assumption), (by first | rfl | trivial | omega | assumption), (by first | rfl | trivial | omega | assumption), (by first | rfl | trivial | omega | assumption), (by first | rfl | trivial | omega | assumption), (by assumption)⟩))))), rfl, rfl⟩
  · skip
    have h_4 := bI_f h_4
    refine x_iload_n (pc := 7) 3 K rfl rfl dX12_copy_7 ?_
    refine x_callS (pc := 8) (As := [.int (zI b)]) K (c_X12_isRow (E := E) (B := B) (N := N)    (by omega)) gX12_copy_X12_isRow rfl (na := 1) (by decide +kernel) rfl ⟨(Nat.le_of_ble_eq_true rfl), (Nat.le_of_ble_eq_true rfl)⟩ (st := []) rfl (Nat.le_of_ble_eq_true rfl) ⟨(Nat.le_of_ble_eq_true rfl), (Nat.le_of_ble_eq_true rfl)⟩ dX12_copy_8 (fun r8 N8 w8 hpo8 hN8 => ?_)
    obtain ⟨rfl, rfl, rfl⟩ := hpo8
    refine x_st (st' := [.int (zI (bI (0 ≤ b ∧ b ≤ 7)))]) rfl ?_
    have hrg8 := bI_rng (0 ≤ b ∧ b ≤ 7)
    refine x_if_ne (pc := 11) (tgt := 17) K (by omega) dX12_copy_11 (by decide) (fun h_11 => ?_) (fun h_11 => ?_)
    · skip
      have h_11 := bI_f h_11
      obtain ⟨aa, rfl⟩ : ∃ aa : Nat, a = (aa : Int) := ⟨a.toNat, by omega⟩
      obtain ⟨bb, rfl⟩ : ∃ bb : Nat, b = (bb : Int) := ⟨b.toNat, by omega⟩
      have ba := hq5 aa (by omega)
      have bb1 := hq5 bb (by omega)
      have la1 := hq6 aa (by omega)
      have lb1 := hq6 bb (by omega)
      refine x_aload_n (pc := 17) 0 K rfl rfl dX12_copy_17 ?_
      refine x_get (pc := 18) (C := RX12) (T := TX12) (n := 26) (ci := 11) (idx := 13) (ref := "BorderBedsModel") (x := .ref (B + 163))  K (cel_ne (cel_self hc0.1) (by decide)) rfl (by decide +kernel) 1 (by decide) (by decide +kernel) rfl rfl dX12_copy_18 ?_
      refine x_iload_n (pc := 21) 1 K rfl rfl dX12_copy_21 ?_
      refine x_iald (pc := 22) aa K (cel_ne (cel_ne hc2 (by decide)) (by decide)) rfl (by omega) (by decide) dX12_copy_22 ?_
      refine x_if_lt (pc := 23) (tgt := 35) K (by omega) dX12_copy_23 (by decide) (fun h_23 => ?_) (fun h_23 => ?_)
      · skip
        refine x_aload_n (pc := 35) 0 K rfl rfl dX12_copy_35 ?_
        refine x_iconst (pc := 36) K dX12_copy_36 ?_
        refine x_callV (pc := 37) (C := RX12) (T := TX12) (n := 26) (ci := 11) (As := [.int (zI 1)]) K (c_X12_found (E := E) (B := B) (N := N)   (cel_ne (cel_self hc0.1) (by decide)) ) gX12_copy_X12_found rfl (na := 1) (by decide +kernel) rfl ⟨(Nat.le_of_ble_eq_true rfl), (Nat.le_of_ble_eq_true rfl)⟩ (cel_ne (cel_self hc0.1) (by decide)) rfl (st := []) rfl (Nat.le_of_ble_eq_true rfl) ⟨(Nat.le_of_ble_eq_true rfl), (Nat.le_of_ble_eq_true rfl)⟩ dX12_copy_37 (fun r37 N37 w37 hpo37 hN37 => ?_)
        obtain ⟨rfl, rfl, rfl⟩ := hpo37
        refine x_v (w := (va_up (va_up v 161 (oM B (va_up F 3 1) V)) 164 (iarr E 320 it))) (up_at1 (by decide)).symm ?_
        refine x_st (st' := [.int (zI (-1000010 - 1))]) rfl ?_
        refine x_iret (pc := 40) K KR (by omega) (Nat.le_of_ble_eq_true rfl) (Nat.le_of_ble_eq_true rfl) dX12_copy_40 ?_
        exact ⟨rfl, (-1000010 - 1), (va_up F 3 1), it, (by (try simp only [Int.toNat_natCast]); first | exact Or.inl ⟨(by first | rfl | trivial | omega | assumption), (by first | rfl | trivial | omega | assumption), (by first | rfl | trivial | omega | assumption), (by first | rfl | trivial | omega | assumption)⟩ | exact Or.inr (Or.inl ⟨(by first | rfl | trivial | omega | assumption), (by first | rfl | trivial | omega | assumption), (by first | rfl | trivial | omega | assumption), (by first | rfl | trivial | omega | assumption), (by first | rfl | trivial | omega | assumption)⟩) | exact Or.inr (Or.inr (Or.inl ⟨(by first | rfl | trivial | omega | assumption), (by first | rfl | trivial | omega | assumption), (by first | rfl | trivial | omega | assumption), (by first | rfl | trivial | omega | assumption), (by first | rfl | trivial | omega | assumption), (by first | rfl | trivial | omega | assumption)⟩)) | exact Or.inr (Or.inr (Or.inr (Or.inl ⟨(by first | rfl | trivial | omega | assumption), (by first | rfl | trivial | omega | assumption), (by first | rfl | trivial | omega | assumption), (by first | rfl | trivial | omega | assumption), (by first | rfl | trivial | omega | assumption), (by first | rfl | trivial | omega | assumption), (by first | rfl | trivial | omega | assumption)⟩))) | exact Or.inr (Or.inr (Or.inr (Or.inr (⟨(by first | rfl | trivial | omega | assumption), (by first | rfl | trivial | omega | assumption), (by first | rfl | trivial | omega | assumption), (by first | rfl | trivial | omega | assumption), (by first | rfl | trivial | omega | assumption), (by first | rfl | trivial | omega | assumption), (by assumption)⟩))))), rfl, rfl⟩
      · skip
        refine x_aload_n (pc := 26) 0 K rfl rfl dX12_copy_26 ?_
        refine x_get (pc := 27) (C := RX12) (T := TX12) (n := 26) (ci := 11) (idx := 13) (ref := "BorderBedsModel") (x := .ref (B + 163))  K (cel_ne (cel_self hc0.1) (by decide)) rfl (by decide +kernel) 1 (by decide) (by decide +kernel) rfl rfl dX12_copy_27 ?_
        refine x_iload_n (pc := 30) 3 K rfl rfl dX12_copy_30 ?_
        refine x_iald (pc := 31) bb K (cel_ne (cel_ne hc2 (by decide)) (by decide)) rfl (by omega) (by decide) dX12_copy_31 ?_
        refine x_if_ge (pc := 32) (tgt := 41) K (by omega) dX12_copy_32 (by decide) (fun h_32 => ?_) (fun h_32 => ?_)
        · skip
          refine x_aload_n (pc := 41) 0 K rfl rfl dX12_copy_41 ?_
          refine x_get (pc := 42) (C := RX12) (T := TX12) (n := 26) (ci := 11) (idx := 7) (ref := "BorderBedsModel") (x := .ref (B + 162))  K (cel_ne (cel_self hc0.1) (by decide)) rfl (by decide +kernel) 0 (by decide) (by decide +kernel) rfl rfl dX12_copy_42 ?_
          refine x_iload_n (pc := 45) 1 K rfl rfl dX12_copy_45 ?_
          refine x_iald (pc := 46) aa K (cel_ne (cel_ne hc1 (by decide)) (by decide)) rfl (by omega) (by decide) dX12_copy_46 ?_
          refine x_aload_n (pc := 47) 0 K rfl rfl dX12_copy_47 ?_
          refine x_get (pc := 48) (C := RX12) (T := TX12) (n := 26) (ci := 11) (idx := 7) (ref := "BorderBedsModel") (x := .ref (B + 162))  K (cel_ne (cel_self hc0.1) (by decide)) rfl (by decide +kernel) 0 (by decide) (by decide +kernel) rfl rfl dX12_copy_48 ?_
          refine x_iload_n (pc := 51) 3 K rfl rfl dX12_copy_51 ?_
          refine x_iald (pc := 52) bb K (cel_ne (cel_ne hc1 (by decide)) (by decide)) rfl (by omega) (by decide) dX12_copy_52 ?_
          refine x_icmp_eq (pc := 53) (tgt := 62) K (by omega) (by omega) dX12_copy_53 (by decide) (fun h_53 => ?_) (fun h_53 => ?_)
          · skip
            refine x_iload_n (pc := 62) 2 K rfl rfl dX12_copy_62 ?_
            refine x_if_lt (pc := 63) (tgt := 111) K (by omega) dX12_copy_63 (by decide) (fun h_63 => ?_) (fun h_63 => ?_)
            · skip
              refine x_aload_n (pc := 111) 0 K rfl rfl dX12_copy_111 ?_
              refine x_iconst (pc := 112) K dX12_copy_112 ?_
              refine x_callV (pc := 113) (C := RX12) (T := TX12) (n := 26) (ci := 11) (As := [.int (zI 2)]) K (c_X12_found (E := E) (B := B) (N := N)   (cel_ne (cel_self hc0.1) (by decide)) ) gX12_copy_X12_found rfl (na := 1) (by decide +kernel) rfl ⟨(Nat.le_of_ble_eq_true rfl), (Nat.le_of_ble_eq_true rfl)⟩ (cel_ne (cel_self hc0.1) (by decide)) rfl (st := []) rfl (Nat.le_of_ble_eq_true rfl) ⟨(Nat.le_of_ble_eq_true rfl), (Nat.le_of_ble_eq_true rfl)⟩ dX12_copy_113 (fun r113 N113 w113 hpo113 hN113 => ?_)
              obtain ⟨rfl, rfl, rfl⟩ := hpo113
              refine x_v (w := (va_up (va_up v 161 (oM B (va_up F 3 2) V)) 164 (iarr E 320 it))) (up_at1 (by decide)).symm ?_
              refine x_st (st' := [.int (zI (-1000010 - 2))]) rfl ?_
              refine x_iret (pc := 116) K KR (by omega) (Nat.le_of_ble_eq_true rfl) (Nat.le_of_ble_eq_true rfl) dX12_copy_116 ?_
              exact ⟨rfl, (-1000010 - 2), (va_up F 3 2), it, (by (try simp only [Int.toNat_natCast]); first | exact Or.inl ⟨(by first | rfl | trivial | omega | assumption), (by first | rfl | trivial | omega | assumption), (by first | rfl | trivial | omega | assumption), (by first | rfl | trivial | omega | assumption)⟩ | exact Or.inr (Or.inl ⟨(by first | rfl | trivial | omega | assumption), (by first | rfl | trivial | omega | assumption), (by first | rfl | trivial | omega | assumption), (by first | rfl | trivial | omega | assumption), (by first | rfl | trivial | omega | assumption)⟩) | exact Or.inr (Or.inr (Or.inl ⟨(by first | rfl | trivial | omega | assumption), (by first | rfl | trivial | omega | assumption), (by first | rfl | trivial | omega | assumption), (by first | rfl | trivial | omega | assumption), (by first | rfl | trivial | omega | assumption), (by first | rfl | trivial | omega | assumption)⟩)) | exact Or.inr (Or.inr (Or.inr (Or.inl ⟨(by first | rfl | trivial | omega | assumption), (by first | rfl | trivial | omega | assumption), (by first | rfl | trivial | omega | assumption), (by first | rfl | trivial | omega | assumption), (by first | rfl | trivial | omega | assumption), (by first | rfl | trivial | omega | assumption), (by first | rfl | trivial | omega | assumption)⟩))) | exact Or.inr (Or.inr (Or.inr (Or.inr (⟨(by first | rfl | trivial | omega | assumption), (by first | rfl | trivial | omega | assumption), (by first | rfl | trivial | omega | assumption), (by first | rfl | trivial | omega | assumption), (by first | rfl | trivial | omega | assumption), (by first | rfl | trivial | omega | assumption), (by assumption)⟩))))), rfl, rfl⟩
            · skip
              refine x_iload (pc := 66) 4 K rfl dX12_copy_66 ?_
              refine x_if_lt (pc := 68) (tgt := 111) K (by omega) dX12_copy_68 (by decide) (fun h_68 => ?_) (fun h_68 => ?_)
              · skip
                refine x_aload_n (pc := 111) 0 K rfl rfl dX12_copy_111 ?_
                refine x_iconst (pc := 112) K dX12_copy_112 ?_
                refine x_callV (pc := 113) (C := RX12) (T := TX12) (n := 26) (ci := 11) (As := [.int (zI 2)]) K (c_X12_found (E := E) (B := B) (N := N)   (cel_ne (cel_self hc0.1) (by decide)) ) gX12_copy_X12_found rfl (na := 1) (by decide +kernel) rfl ⟨(Nat.le_of_ble_eq_true rfl), (Nat.le_of_ble_eq_true rfl)⟩ (cel_ne (cel_self hc0.1) (by decide)) rfl (st := []) rfl (Nat.le_of_ble_eq_true rfl) ⟨(Nat.le_of_ble_eq_true rfl), (Nat.le_of_ble_eq_true rfl)⟩ dX12_copy_113 (fun r113 N113 w113 hpo113 hN113 => ?_)
                obtain ⟨rfl, rfl, rfl⟩ := hpo113
                refine x_v (w := (va_up (va_up v 161 (oM B (va_up F 3 2) V)) 164 (iarr E 320 it))) (up_at1 (by decide)).symm ?_
                refine x_st (st' := [.int (zI (-1000010 - 2))]) rfl ?_
                refine x_iret (pc := 116) K KR (by omega) (Nat.le_of_ble_eq_true rfl) (Nat.le_of_ble_eq_true rfl) dX12_copy_116 ?_
                exact ⟨rfl, (-1000010 - 2), (va_up F 3 2), it, (by (try simp only [Int.toNat_natCast]); first | exact Or.inl ⟨(by first | rfl | trivial | omega | assumption), (by first | rfl | trivial | omega | assumption), (by first | rfl | trivial | omega | assumption), (by first | rfl | trivial | omega | assumption)⟩ | exact Or.inr (Or.inl ⟨(by first | rfl | trivial | omega | assumption), (by first | rfl | trivial | omega | assumption), (by first | rfl | trivial | omega | assumption), (by first | rfl | trivial | omega | assumption), (by first | rfl | trivial | omega | assumption)⟩) | exact Or.inr (Or.inr (Or.inl ⟨(by first | rfl | trivial | omega | assumption), (by first | rfl | trivial | omega | assumption), (by first | rfl | trivial | omega | assumption), (by first | rfl | trivial | omega | assumption), (by first | rfl | trivial | omega | assumption), (by first | rfl | trivial | omega | assumption)⟩)) | exact Or.inr (Or.inr (Or.inr (Or.inl ⟨(by first | rfl | trivial | omega | assumption), (by first | rfl | trivial | omega | assumption), (by first | rfl | trivial | omega | assumption), (by first | rfl | trivial | omega | assumption), (by first | rfl | trivial | omega | assumption), (by first | rfl | trivial | omega | assumption), (by first | rfl | trivial | omega | assumption)⟩))) | exact Or.inr (Or.inr (Or.inr (Or.inr (⟨(by first | rfl | trivial | omega | assumption), (by first | rfl | trivial | omega | assumption), (by first | rfl | trivial | omega | assumption), (by first | rfl | trivial | omega | assumption), (by first | rfl | trivial | omega | assumption), (by first | rfl | trivial | omega | assumption), (by assumption)⟩))))), rfl, rfl⟩
              · skip
                refine x_iload (pc := 71) 5 K rfl dX12_copy_71 ?_
                refine x_if_lt (pc := 73) (tgt := 111) K (by omega) dX12_copy_73 (by decide) (fun h_73 => ?_) (fun h_73 => ?_)
                · skip
                  refine x_aload_n (pc := 111) 0 K rfl rfl dX12_copy_111 ?_
                  refine x_iconst (pc := 112) K dX12_copy_112 ?_
                  refine x_callV (pc := 113) (C := RX12) (T := TX12) (n := 26) (ci := 11) (As := [.int (zI 2)]) K (c_X12_found (E := E) (B := B) (N := N)   (cel_ne (cel_self hc0.1) (by decide)) ) gX12_copy_X12_found rfl (na := 1) (by decide +kernel) rfl ⟨(Nat.le_of_ble_eq_true rfl), (Nat.le_of_ble_eq_true rfl)⟩ (cel_ne (cel_self hc0.1) (by decide)) rfl (st := []) rfl (Nat.le_of_ble_eq_true rfl) ⟨(Nat.le_of_ble_eq_true rfl), (Nat.le_of_ble_eq_true rfl)⟩ dX12_copy_113 (fun r113 N113 w113 hpo113 hN113 => ?_)
                  obtain ⟨rfl, rfl, rfl⟩ := hpo113
                  refine x_v (w := (va_up (va_up v 161 (oM B (va_up F 3 2) V)) 164 (iarr E 320 it))) (up_at1 (by decide)).symm ?_
                  refine x_st (st' := [.int (zI (-1000010 - 2))]) rfl ?_
                  refine x_iret (pc := 116) K KR (by omega) (Nat.le_of_ble_eq_true rfl) (Nat.le_of_ble_eq_true rfl) dX12_copy_116 ?_
                  exact ⟨rfl, (-1000010 - 2), (va_up F 3 2), it, (by (try simp only [Int.toNat_natCast]); first | exact Or.inl ⟨(by first | rfl | trivial | omega | assumption), (by first | rfl | trivial | omega | assumption), (by first | rfl | trivial | omega | assumption), (by first | rfl | trivial | omega | assumption)⟩ | exact Or.inr (Or.inl ⟨(by first | rfl | trivial | omega | assumption), (by first | rfl | trivial | omega | assumption), (by first | rfl | trivial | omega | assumption), (by first | rfl | trivial | omega | assumption), (by first | rfl | trivial | omega | assumption)⟩) | exact Or.inr (Or.inr (Or.inl ⟨(by first | rfl | trivial | omega | assumption), (by first | rfl | trivial | omega | assumption), (by first | rfl | trivial | omega | assumption), (by first | rfl | trivial | omega | assumption), (by first | rfl | trivial | omega | assumption), (by first | rfl | trivial | omega | assumption)⟩)) | exact Or.inr (Or.inr (Or.inr (Or.inl ⟨(by first | rfl | trivial | omega | assumption), (by first | rfl | trivial | omega | assumption), (by first | rfl | trivial | omega | assumption), (by first | rfl | trivial | omega | assumption), (by first | rfl | trivial | omega | assumption), (by first | rfl | trivial | omega | assumption), (by first | rfl | trivial | omega | assumption)⟩))) | exact Or.inr (Or.inr (Or.inr (Or.inr (⟨(by first | rfl | trivial | omega | assumption), (by first | rfl | trivial | omega | assumption), (by first | rfl | trivial | omega | assumption), (by first | rfl | trivial | omega | assumption), (by first | rfl | trivial | omega | assumption), (by first | rfl | trivial | omega | assumption), (by assumption)⟩))))), rfl, rfl⟩
                · skip
                  refine x_iload_n (pc := 76) 2 K rfl rfl dX12_copy_76 ?_
                  refine x_i2l (pc := 77) K (by omega) dX12_copy_77 ?_
                  refine x_iload (pc := 78) 5 K rfl dX12_copy_78 ?_
                  refine x_i2l (pc := 80) K (by omega) dX12_copy_80 ?_
                  refine x_ladd (pc := 81) K dX12_copy_81 ?_
                  refine x_aload_n (pc := 82) 0 K rfl rfl dX12_copy_82 ?_
                  refine x_get (pc := 83) (C := RX12) (T := TX12) (n := 26) (ci := 11) (idx := 13) (ref := "BorderBedsModel") (x := .ref (B + 163))  K (cel_ne (cel_self hc0.1) (by decide)) rfl (by decide +kernel) 1 (by decide) (by decide +kernel) rfl rfl dX12_copy_83 ?_
                  refine x_iload_n (pc := 86) 1 K rfl rfl dX12_copy_86 ?_
                  refine x_iald (pc := 87) aa K (cel_ne (cel_ne hc2 (by decide)) (by decide)) rfl (by omega) (by decide) dX12_copy_87 ?_
                  refine x_i2l (pc := 88) K (by omega) dX12_copy_88 ?_
                  refine x_lcmp (pc := 89) K (by omega) (by omega) dX12_copy_89 ?_
                  refine x_if_gt (pc := 90) (tgt := 111) K (cmpZ_rng _ _) dX12_copy_90 (by decide) (fun h_90 => ?_) (fun h_90 => ?_)
                  · skip
                    have h_90 := cz_gt h_90
                    refine x_aload_n (pc := 111) 0 K rfl rfl dX12_copy_111 ?_
                    refine x_iconst (pc := 112) K dX12_copy_112 ?_
                    refine x_callV (pc := 113) (C := RX12) (T := TX12) (n := 26) (ci := 11) (As := [.int (zI 2)]) K (c_X12_found (E := E) (B := B) (N := N)   (cel_ne (cel_self hc0.1) (by decide)) ) gX12_copy_X12_found rfl (na := 1) (by decide +kernel) rfl ⟨(Nat.le_of_ble_eq_true rfl), (Nat.le_of_ble_eq_true rfl)⟩ (cel_ne (cel_self hc0.1) (by decide)) rfl (st := []) rfl (Nat.le_of_ble_eq_true rfl) ⟨(Nat.le_of_ble_eq_true rfl), (Nat.le_of_ble_eq_true rfl)⟩ dX12_copy_113 (fun r113 N113 w113 hpo113 hN113 => ?_)
                    obtain ⟨rfl, rfl, rfl⟩ := hpo113
                    refine x_v (w := (va_up (va_up v 161 (oM B (va_up F 3 2) V)) 164 (iarr E 320 it))) (up_at1 (by decide)).symm ?_
                    refine x_st (st' := [.int (zI (-1000010 - 2))]) rfl ?_
                    refine x_iret (pc := 116) K KR (by omega) (Nat.le_of_ble_eq_true rfl) (Nat.le_of_ble_eq_true rfl) dX12_copy_116 ?_
                    exact ⟨rfl, (-1000010 - 2), (va_up F 3 2), it, (by (try simp only [Int.toNat_natCast]); first | exact Or.inl ⟨(by first | rfl | trivial | omega | assumption), (by first | rfl | trivial | omega | assumption), (by first | rfl | trivial | omega | assumption), (by first | rfl | trivial | omega | assumption)⟩ | exact Or.inr (Or.inl ⟨(by first | rfl | trivial | omega | assumption), (by first | rfl | trivial | omega | assumption), (by first | rfl | trivial | omega | assumption), (by first | rfl | trivial | omega | assumption), (by first | rfl | trivial | omega | assumption)⟩) | exact Or.inr (Or.inr (Or.inl ⟨(by first | rfl | trivial | omega | assumption), (by first | rfl | trivial | omega | assumption), (by first | rfl | trivial | omega | assumption), (by first | rfl | trivial | omega | assumption), (by first | rfl | trivial | omega | assumption), (by first | rfl | trivial | omega | assumption)⟩)) | exact Or.inr (Or.inr (Or.inr (Or.inl ⟨(by first | rfl | trivial | omega | assumption), (by first | rfl | trivial | omega | assumption), (by first | rfl | trivial | omega | assumption), (by first | rfl | trivial | omega | assumption), (by first | rfl | trivial | omega | assumption), (by first | rfl | trivial | omega | assumption), (by first | rfl | trivial | omega | assumption)⟩))) | exact Or.inr (Or.inr (Or.inr (Or.inr (⟨(by first | rfl | trivial | omega | assumption), (by first | rfl | trivial | omega | assumption), (by first | rfl | trivial | omega | assumption), (by first | rfl | trivial | omega | assumption), (by first | rfl | trivial | omega | assumption), (by first | rfl | trivial | omega | assumption), (by assumption)⟩))))), rfl, rfl⟩
                  · skip
                    have h_90 := cz_gt_n h_90
                    refine x_iload (pc := 93) 4 K rfl dX12_copy_93 ?_
                    refine x_i2l (pc := 95) K (by omega) dX12_copy_95 ?_
                    refine x_iload (pc := 96) 5 K rfl dX12_copy_96 ?_
                    refine x_i2l (pc := 98) K (by omega) dX12_copy_98 ?_
                    refine x_ladd (pc := 99) K dX12_copy_99 ?_
                    refine x_aload_n (pc := 100) 0 K rfl rfl dX12_copy_100 ?_
                    refine x_get (pc := 101) (C := RX12) (T := TX12) (n := 26) (ci := 11) (idx := 13) (ref := "BorderBedsModel") (x := .ref (B + 163))  K (cel_ne (cel_self hc0.1) (by decide)) rfl (by decide +kernel) 1 (by decide) (by decide +kernel) rfl rfl dX12_copy_101 ?_
                    refine x_iload_n (pc := 104) 3 K rfl rfl dX12_copy_104 ?_
                    refine x_iald (pc := 105) bb K (cel_ne (cel_ne hc2 (by decide)) (by decide)) rfl (by omega) (by decide) dX12_copy_105 ?_
                    refine x_i2l (pc := 106) K (by omega) dX12_copy_106 ?_
                    refine x_lcmp (pc := 107) K (by omega) (by omega) dX12_copy_107 ?_
                    refine x_if_le (pc := 108) (tgt := 117) K (cmpZ_rng _ _) dX12_copy_108 (by decide) (fun h_108 => ?_) (fun h_108 => ?_)
                    · skip
                      have h_108 := cz_le h_108
                      obtain ⟨ii, rfl⟩ : ∃ ii : Nat, i = (ii : Int) := ⟨i.toNat, by omega⟩
                      obtain ⟨jj, rfl⟩ : ∃ jj : Nat, j = (jj : Int) := ⟨j.toNat, by omega⟩
                      obtain ⟨nn, rfl⟩ : ∃ nn : Nat, n = (nn : Int) := ⟨n.toNat, by omega⟩
                      have hAA : aa = bb ∨ aa < bb ∨ bb < aa := by omega
                      refine x_iconst (pc := 117) K dX12_copy_117 ?_
                      refine x_istore (pc := 118) K (L' := [(6, .int (zI 0)), (0, .ref (B + 161)), (1, .int (zI (aa : Int))), (2, .int (zI (ii : Int))), (3, .int (zI (bb : Int))), (4, .int (zI (jj : Int))), (5, .int (zI (nn : Int)))]) hnL (by decide) rfl dX12_copy_118 ?_
                      have LOOP120 : ∀ (n_120 : Nat) (k : Nat) (x : Nat → Int), (k ≤ nn) → ((jj ≤ ii ∧ x = cpI it it (40 * aa + ii) (40 * bb + jj) k) ∨ (ii < jj ∧ x = cpI it it ((40 * aa + ii) + (nn - k)) ((40 * bb + jj) + (nn - k)) k)) → (nn - k) < n_120 → XW Γ N (va_up (va_up v 161 (oM B F V)) 164 (iarr E 320 x)) [(0, .ref (B + 161)), (1, .int (zI (aa : Int))), (2, .int (zI (ii : Int))), (3, .int (zI (bb : Int))), (4, .int (zI (jj : Int))), (5, .int (zI (nn : Int))), (6, .int (zI (k : Int)))] 0 0 120 [] := by
                        intro n_120
                        induction n_120 with
                        | zero =>
                          intro k x hi120_0 hi120_1 hm_120
                          exfalso; omega
                        | succ n_120 ih120 =>
                          intro k x hi120_0 hi120_1 hm_120
                          refine x_iload (pc := 120) 6 K rfl dX12_copy_120 ?_
                          refine x_iload (pc := 122) 5 K rfl dX12_copy_122 ?_
                          refine x_icmp_ge (pc := 124) (tgt := 182) K (by omega) (by omega) dX12_copy_124 (by decide) (fun h_124 => ?_) (fun h_124 => ?_)
                          · skip
                            have hkn : k = nn := by omega
                            rw [hkn] at hi120_1
                            have hfin : x = cpI it it (40 * aa + ii) (40 * bb + jj) nn := by
                              rcases hi120_1 with h | h
                              · exact h.2
                              · rw [h.2, show nn - nn = 0 by omega]; rfl
                            refine x_aload_n (pc := 182) 0 K rfl rfl dX12_copy_182 ?_
                            refine x_iload (pc := 183) 5 K rfl dX12_copy_183 ?_
                            refine x_callV (pc := 185) (C := RX12) (T := TX12) (n := 26) (ci := 11) (As := [.int (zI (nn : Int))]) K (c_X12_well (E := E) (B := B) (N := N)   (cel_ne (cel_self hc0.1) (by decide)) ) gX12_copy_X12_well rfl (na := 1) (by decide +kernel) rfl ⟨(Nat.le_of_ble_eq_true rfl), (Nat.le_of_ble_eq_true rfl)⟩ (cel_ne (cel_self hc0.1) (by decide)) rfl (st := []) rfl (Nat.le_of_ble_eq_true rfl) ⟨(Nat.le_of_ble_eq_true rfl), (Nat.le_of_ble_eq_true rfl)⟩ dX12_copy_185 (fun r185 N185 w185 hpo185 hN185 => ?_)
                            obtain ⟨rfl, rfl, rfl⟩ := hpo185
                            refine x_v (w := (va_up (va_up v 161 (oM B (va_up F 3 0) V)) 164 (iarr E 320 x))) (up_at1 (by decide)).symm ?_
                            refine x_st (st' := [.int (zI (nn : Int))]) rfl ?_
                            refine x_iret (pc := 188) K KR (by omega) (Nat.le_of_ble_eq_true rfl) (Nat.le_of_ble_eq_true rfl) dX12_copy_188 ?_
                            exact ⟨rfl, (nn : Int), (va_up F 3 0), x, (by (try simp only [Int.toNat_natCast]); first | exact Or.inl ⟨(by first | rfl | trivial | omega | assumption), (by first | rfl | trivial | omega | assumption), (by first | rfl | trivial | omega | assumption), (by first | rfl | trivial | omega | assumption)⟩ | exact Or.inr (Or.inl ⟨(by first | rfl | trivial | omega | assumption), (by first | rfl | trivial | omega | assumption), (by first | rfl | trivial | omega | assumption), (by first | rfl | trivial | omega | assumption), (by first | rfl | trivial | omega | assumption)⟩) | exact Or.inr (Or.inr (Or.inl ⟨(by first | rfl | trivial | omega | assumption), (by first | rfl | trivial | omega | assumption), (by first | rfl | trivial | omega | assumption), (by first | rfl | trivial | omega | assumption), (by first | rfl | trivial | omega | assumption), (by first | rfl | trivial | omega | assumption)⟩)) | exact Or.inr (Or.inr (Or.inr (Or.inl ⟨(by first | rfl | trivial | omega | assumption), (by first | rfl | trivial | omega | assumption), (by first | rfl | trivial | omega | assumption), (by first | rfl | trivial | omega | assumption), (by first | rfl | trivial | omega | assumption), (by first | rfl | trivial | omega | assumption), (by first | rfl | trivial | omega | assumption)⟩))) | exact Or.inr (Or.inr (Or.inr (Or.inr (⟨(by first | rfl | trivial | omega | assumption), (by first | rfl | trivial | omega | assumption), (by first | rfl | trivial | omega | assumption), (by first | rfl | trivial | omega | assumption), (by first | rfl | trivial | omega | assumption), (by first | rfl | trivial | omega | assumption), (by assumption)⟩))))), rfl, rfl⟩
                          · skip
                            refine x_iload (pc := 127) 4 K rfl dX12_copy_127 ?_
                            refine x_iload_n (pc := 129) 2 K rfl rfl dX12_copy_129 ?_
                            refine x_icmp_le (pc := 130) (tgt := 143) K (by omega) (by omega) dX12_copy_130 (by decide) (fun h_130 => ?_) (fun h_130 => ?_)
                            · skip
                              have hx : x = cpI it it (40 * aa + ii) (40 * bb + jj) k := by
                                rcases hi120_1 with h | h
                                · exact h.2
                                · exfalso; omega
                              have hnew := cp_f (it := it) (s := 40 * aa + ii) (d := 40 * bb + jj) (k := k) (by omega)
                              rw [← hx] at hnew
                              refine x_iload (pc := 143) 6 K rfl dX12_copy_143 ?_
                              refine x_st (st' := [.int (zI (k : Int))]) (by first | rfl | rw [show (((nn : Int) - 1) - (k : Int)) = ((nn - k - 1 : Nat) : Int) by omega]) ?_
                              refine x_istore (pc := 145) K (L' := [(7, .int (zI (k : Int))), (0, .ref (B + 161)), (1, .int (zI (aa : Int))), (2, .int (zI (ii : Int))), (3, .int (zI (bb : Int))), (4, .int (zI (jj : Int))), (5, .int (zI (nn : Int))), (6, .int (zI (k : Int)))]) hnL (by decide) rfl dX12_copy_145 ?_
                              refine x_aload_n (pc := 147) 1 K rfl rfl dX12_copy_147 ?_
                              refine x_get (pc := 148) (C := RX12) (T := TX12) (n := 26) (ci := 11) (idx := 16) (ref := "BorderBedsModel") (x := .ref (B + 164))  K (cel_ne (cel_self hc0.1) (by decide)) rfl (by decide +kernel) 2 (by decide) (by decide +kernel) rfl rfl dX12_copy_148 ?_
                              refine x_bipush (pc := 151) K (by decide) dX12_copy_151 ?_
                              refine x_iload_n (pc := 153) 4 K rfl rfl dX12_copy_153 ?_
                              refine x_imul (pc := 154) K dX12_copy_154 ?_
                              refine x_iload (pc := 155) 5 K rfl dX12_copy_155 ?_
                              refine x_iadd (pc := 157) K dX12_copy_157 ?_
                              refine x_iload (pc := 158) 0 K rfl dX12_copy_158 ?_
                              refine x_iadd (pc := 160) K dX12_copy_160 ?_
                              refine x_aload_n (pc := 161) 1 K rfl rfl dX12_copy_161 ?_
                              refine x_get (pc := 162) (C := RX12) (T := TX12) (n := 26) (ci := 11) (idx := 16) (ref := "BorderBedsModel") (x := .ref (B + 164))  K (cel_ne (cel_self hc0.1) (by decide)) rfl (by decide +kernel) 2 (by decide) (by decide +kernel) rfl rfl dX12_copy_162 ?_
                              refine x_bipush (pc := 165) K (by decide) dX12_copy_165 ?_
                              refine x_iload_n (pc := 167) 2 K rfl rfl dX12_copy_167 ?_
                              refine x_imul (pc := 168) K dX12_copy_168 ?_
                              refine x_iload_n (pc := 169) 3 K rfl rfl dX12_copy_169 ?_
                              refine x_iadd (pc := 170) K dX12_copy_170 ?_
                              refine x_iload (pc := 171) 0 K rfl dX12_copy_171 ?_
                              refine x_iadd (pc := 173) K dX12_copy_173 ?_
                              refine x_iald (pc := 174) (((40 * aa) + ii) + k) K (cel_self hc3.1) (by omega) (by omega) (by decide) dX12_copy_174 ?_
                              refine x_iast (pc := 175) (((40 * bb) + jj) + k) K (cel_self hc3.1) (by omega) (by omega) (by decide) dX12_copy_175 ?_
                              refine x_v (w := (va_up (va_up v 161 (oM B F V)) 164 (iarr E 320 (va_up x (((40 * bb) + jj) + k) (x (((40 * aa) + ii) + k)))))) (up_at0).symm ?_
                              refine x_iinc (pc := 176) (L' := [(6, .int (zI ((k : Int) + 1))), (7, .int (zI (k : Int))), (0, .ref (B + 161)), (1, .int (zI (aa : Int))), (2, .int (zI (ii : Int))), (3, .int (zI (bb : Int))), (4, .int (zI (jj : Int))), (5, .int (zI (nn : Int)))]) 7 K hnL rfl (by decide) rfl dX12_copy_176 ?_
                              refine x_goto (pc := 179) (tgt := 120) K dX12_copy_179 (by decide) ?_
                              refine x_sub (L' := [(0, .ref (B + 161)), (1, .int (zI (aa : Int))), (2, .int (zI (ii : Int))), (3, .int (zI (bb : Int))), (4, .int (zI (jj : Int))), (5, .int (zI (nn : Int))), (6, .int (zI ((k : Int) + 1)))]) [2, 3, 4, 5, 6, 7, 0] rfl ?_
                              exact ih120 (k + 1) (va_up x (((40 * bb) + jj) + k) (x (((40 * aa) + ii) + k))) (by omega) (by exact Or.inl ⟨by omega, hnew⟩) (by omega)
                            · skip
                              have hx : x = cpI it it (40 * aa + ii + (nn - k)) (40 * bb + jj + (nn - k)) k := by
                                rcases hi120_1 with h | h
                                · exfalso; omega
                                · exact h.2
                              have hnew := cp_b (it := it) (s := 40 * aa + ii) (d := 40 * bb + jj) (m := nn - k) (k := k) (by omega) (by omega)
                              rw [← hx] at hnew
                              refine x_iload (pc := 133) 5 K rfl dX12_copy_133 ?_
                              refine x_iconst (pc := 135) K dX12_copy_135 ?_
                              refine x_isub (pc := 136) K dX12_copy_136 ?_
                              refine x_iload (pc := 137) 6 K rfl dX12_copy_137 ?_
                              refine x_isub (pc := 139) K dX12_copy_139 ?_
                              refine x_goto (pc := 140) (tgt := 145) K dX12_copy_140 (by decide) ?_
                              refine x_st (st' := [.int (zI (((nn - k - 1) : Nat) : Int))]) (by first | rfl | rw [show (((nn : Int) - 1) - (k : Int)) = ((nn - k - 1 : Nat) : Int) by omega]) ?_
                              refine x_nmN (m := (nn - k - 1)) (by omega) (fun z1 hz1 => ?_)
                              refine x_istore (pc := 145) K (L' := [(7, .int (zI (z1 : Int))), (0, .ref (B + 161)), (1, .int (zI (aa : Int))), (2, .int (zI (ii : Int))), (3, .int (zI (bb : Int))), (4, .int (zI (jj : Int))), (5, .int (zI (nn : Int))), (6, .int (zI (k : Int)))]) hnL (by decide) rfl dX12_copy_145 ?_
                              refine x_aload_n (pc := 147) 1 K rfl rfl dX12_copy_147 ?_
                              refine x_get (pc := 148) (C := RX12) (T := TX12) (n := 26) (ci := 11) (idx := 16) (ref := "BorderBedsModel") (x := .ref (B + 164))  K (cel_ne (cel_self hc0.1) (by decide)) rfl (by decide +kernel) 2 (by decide) (by decide +kernel) rfl rfl dX12_copy_148 ?_
                              refine x_bipush (pc := 151) K (by decide) dX12_copy_151 ?_
                              refine x_iload_n (pc := 153) 4 K rfl rfl dX12_copy_153 ?_
                              refine x_imul (pc := 154) K dX12_copy_154 ?_
                              refine x_iload (pc := 155) 5 K rfl dX12_copy_155 ?_
                              refine x_iadd (pc := 157) K dX12_copy_157 ?_
                              refine x_iload (pc := 158) 0 K rfl dX12_copy_158 ?_
                              refine x_iadd (pc := 160) K dX12_copy_160 ?_
                              refine x_aload_n (pc := 161) 1 K rfl rfl dX12_copy_161 ?_
                              refine x_get (pc := 162) (C := RX12) (T := TX12) (n := 26) (ci := 11) (idx := 16) (ref := "BorderBedsModel") (x := .ref (B + 164))  K (cel_ne (cel_self hc0.1) (by decide)) rfl (by decide +kernel) 2 (by decide) (by decide +kernel) rfl rfl dX12_copy_162 ?_
                              refine x_bipush (pc := 165) K (by decide) dX12_copy_165 ?_
                              refine x_iload_n (pc := 167) 2 K rfl rfl dX12_copy_167 ?_
                              refine x_imul (pc := 168) K dX12_copy_168 ?_
                              refine x_iload_n (pc := 169) 3 K rfl rfl dX12_copy_169 ?_
                              refine x_iadd (pc := 170) K dX12_copy_170 ?_
                              refine x_iload (pc := 171) 0 K rfl dX12_copy_171 ?_
                              refine x_iadd (pc := 173) K dX12_copy_173 ?_
                              refine x_iald (pc := 174) (((40 * aa) + ii) + z1) K (cel_self hc3.1) (by omega) (by omega) (by decide) dX12_copy_174 ?_
                              refine x_iast (pc := 175) (((40 * bb) + jj) + z1) K (cel_self hc3.1) (by omega) (by omega) (by decide) dX12_copy_175 ?_
                              refine x_v (w := (va_up (va_up v 161 (oM B F V)) 164 (iarr E 320 (va_up x (((40 * bb) + jj) + z1) (x (((40 * aa) + ii) + z1)))))) (up_at0).symm ?_
                              refine x_iinc (pc := 176) (L' := [(6, .int (zI ((k : Int) + 1))), (7, .int (zI (z1 : Int))), (0, .ref (B + 161)), (1, .int (zI (aa : Int))), (2, .int (zI (ii : Int))), (3, .int (zI (bb : Int))), (4, .int (zI (jj : Int))), (5, .int (zI (nn : Int)))]) 7 K hnL rfl (by decide) rfl dX12_copy_176 ?_
                              refine x_goto (pc := 179) (tgt := 120) K dX12_copy_179 (by decide) ?_
                              refine x_sub (L' := [(0, .ref (B + 161)), (1, .int (zI (aa : Int))), (2, .int (zI (ii : Int))), (3, .int (zI (bb : Int))), (4, .int (zI (jj : Int))), (5, .int (zI (nn : Int))), (6, .int (zI ((k : Int) + 1)))]) [2, 3, 4, 5, 6, 7, 0] rfl ?_
                              exact ih120 (k + 1) (va_up x (((40 * bb) + jj) + z1) (x (((40 * aa) + ii) + z1))) (by omega) (by refine Or.inr ⟨by omega, ?_⟩; rw [hz1, show nn - k - 1 = nn - (k + 1) by omega]; rw [show nn - k - 1 = nn - (k + 1) by omega] at hnew; exact hnew) (by omega)
                      refine x_sub (L' := [(0, .ref (B + 161)), (1, .int (zI (aa : Int))), (2, .int (zI (ii : Int))), (3, .int (zI (bb : Int))), (4, .int (zI (jj : Int))), (5, .int (zI (nn : Int))), (6, .int (zI 0))]) [1, 2, 3, 4, 5, 6, 0] rfl ?_
                      exact LOOP120 (_) 0 it (by omega) (by rcases Nat.lt_or_ge ii jj with h | h; exact Or.inr ⟨h, (cpI_0 _ _ _ _).symm⟩; exact Or.inl ⟨h, (cpI_0 _ _ _ _).symm⟩) (Nat.lt_succ_self _)
                    · skip
                      have h_108 := cz_le_n h_108
                      refine x_aload_n (pc := 111) 0 K rfl rfl dX12_copy_111 ?_
                      refine x_iconst (pc := 112) K dX12_copy_112 ?_
                      refine x_callV (pc := 113) (C := RX12) (T := TX12) (n := 26) (ci := 11) (As := [.int (zI 2)]) K (c_X12_found (E := E) (B := B) (N := N)   (cel_ne (cel_self hc0.1) (by decide)) ) gX12_copy_X12_found rfl (na := 1) (by decide +kernel) rfl ⟨(Nat.le_of_ble_eq_true rfl), (Nat.le_of_ble_eq_true rfl)⟩ (cel_ne (cel_self hc0.1) (by decide)) rfl (st := []) rfl (Nat.le_of_ble_eq_true rfl) ⟨(Nat.le_of_ble_eq_true rfl), (Nat.le_of_ble_eq_true rfl)⟩ dX12_copy_113 (fun r113 N113 w113 hpo113 hN113 => ?_)
                      obtain ⟨rfl, rfl, rfl⟩ := hpo113
                      refine x_v (w := (va_up (va_up v 161 (oM B (va_up F 3 2) V)) 164 (iarr E 320 it))) (up_at1 (by decide)).symm ?_
                      refine x_st (st' := [.int (zI (-1000010 - 2))]) rfl ?_
                      refine x_iret (pc := 116) K KR (by omega) (Nat.le_of_ble_eq_true rfl) (Nat.le_of_ble_eq_true rfl) dX12_copy_116 ?_
                      exact ⟨rfl, (-1000010 - 2), (va_up F 3 2), it, (by (try simp only [Int.toNat_natCast]); first | exact Or.inl ⟨(by first | rfl | trivial | omega | assumption), (by first | rfl | trivial | omega | assumption), (by first | rfl | trivial | omega | assumption), (by first | rfl | trivial | omega | assumption)⟩ | exact Or.inr (Or.inl ⟨(by first | rfl | trivial | omega | assumption), (by first | rfl | trivial | omega | assumption), (by first | rfl | trivial | omega | assumption), (by first | rfl | trivial | omega | assumption), (by first | rfl | trivial | omega | assumption)⟩) | exact Or.inr (Or.inr (Or.inl ⟨(by first | rfl | trivial | omega | assumption), (by first | rfl | trivial | omega | assumption), (by first | rfl | trivial | omega | assumption), (by first | rfl | trivial | omega | assumption), (by first | rfl | trivial | omega | assumption), (by first | rfl | trivial | omega | assumption)⟩)) | exact Or.inr (Or.inr (Or.inr (Or.inl ⟨(by first | rfl | trivial | omega | assumption), (by first | rfl | trivial | omega | assumption), (by first | rfl | trivial | omega | assumption), (by first | rfl | trivial | omega | assumption), (by first | rfl | trivial | omega | assumption), (by first | rfl | trivial | omega | assumption), (by first | rfl | trivial | omega | assumption)⟩))) | exact Or.inr (Or.inr (Or.inr (Or.inr (⟨(by first | rfl | trivial | omega | assumption), (by first | rfl | trivial | omega | assumption), (by first | rfl | trivial | omega | assumption), (by first | rfl | trivial | omega | assumption), (by first | rfl | trivial | omega | assumption), (by first | rfl | trivial | omega | assumption), (by assumption)⟩))))), rfl, rfl⟩
          · skip
            refine x_aload_n (pc := 56) 0 K rfl rfl dX12_copy_56 ?_
            refine x_iconst (pc := 57) K dX12_copy_57 ?_
            refine x_callV (pc := 58) (C := RX12) (T := TX12) (n := 26) (ci := 11) (As := [.int (zI 5)]) K (c_X12_found (E := E) (B := B) (N := N)   (cel_ne (cel_self hc0.1) (by decide)) ) gX12_copy_X12_found rfl (na := 1) (by decide +kernel) rfl ⟨(Nat.le_of_ble_eq_true rfl), (Nat.le_of_ble_eq_true rfl)⟩ (cel_ne (cel_self hc0.1) (by decide)) rfl (st := []) rfl (Nat.le_of_ble_eq_true rfl) ⟨(Nat.le_of_ble_eq_true rfl), (Nat.le_of_ble_eq_true rfl)⟩ dX12_copy_58 (fun r58 N58 w58 hpo58 hN58 => ?_)
            obtain ⟨rfl, rfl, rfl⟩ := hpo58
            refine x_v (w := (va_up (va_up v 161 (oM B (va_up F 3 5) V)) 164 (iarr E 320 it))) (up_at1 (by decide)).symm ?_
            refine x_st (st' := [.int (zI (-1000010 - 5))]) rfl ?_
            refine x_iret (pc := 61) K KR (by omega) (Nat.le_of_ble_eq_true rfl) (Nat.le_of_ble_eq_true rfl) dX12_copy_61 ?_
            exact ⟨rfl, (-1000010 - 5), (va_up F 3 5), it, (by (try simp only [Int.toNat_natCast]); first | exact Or.inl ⟨(by first | rfl | trivial | omega | assumption), (by first | rfl | trivial | omega | assumption), (by first | rfl | trivial | omega | assumption), (by first | rfl | trivial | omega | assumption)⟩ | exact Or.inr (Or.inl ⟨(by first | rfl | trivial | omega | assumption), (by first | rfl | trivial | omega | assumption), (by first | rfl | trivial | omega | assumption), (by first | rfl | trivial | omega | assumption), (by first | rfl | trivial | omega | assumption)⟩) | exact Or.inr (Or.inr (Or.inl ⟨(by first | rfl | trivial | omega | assumption), (by first | rfl | trivial | omega | assumption), (by first | rfl | trivial | omega | assumption), (by first | rfl | trivial | omega | assumption), (by first | rfl | trivial | omega | assumption), (by first | rfl | trivial | omega | assumption)⟩)) | exact Or.inr (Or.inr (Or.inr (Or.inl ⟨(by first | rfl | trivial | omega | assumption), (by first | rfl | trivial | omega | assumption), (by first | rfl | trivial | omega | assumption), (by first | rfl | trivial | omega | assumption), (by first | rfl | trivial | omega | assumption), (by first | rfl | trivial | omega | assumption), (by first | rfl | trivial | omega | assumption)⟩))) | exact Or.inr (Or.inr (Or.inr (Or.inr (⟨(by first | rfl | trivial | omega | assumption), (by first | rfl | trivial | omega | assumption), (by first | rfl | trivial | omega | assumption), (by first | rfl | trivial | omega | assumption), (by first | rfl | trivial | omega | assumption), (by first | rfl | trivial | omega | assumption), (by assumption)⟩))))), rfl, rfl⟩
        · skip
          refine x_aload_n (pc := 35) 0 K rfl rfl dX12_copy_35 ?_
          refine x_iconst (pc := 36) K dX12_copy_36 ?_
          refine x_callV (pc := 37) (C := RX12) (T := TX12) (n := 26) (ci := 11) (As := [.int (zI 1)]) K (c_X12_found (E := E) (B := B) (N := N)   (cel_ne (cel_self hc0.1) (by decide)) ) gX12_copy_X12_found rfl (na := 1) (by decide +kernel) rfl ⟨(Nat.le_of_ble_eq_true rfl), (Nat.le_of_ble_eq_true rfl)⟩ (cel_ne (cel_self hc0.1) (by decide)) rfl (st := []) rfl (Nat.le_of_ble_eq_true rfl) ⟨(Nat.le_of_ble_eq_true rfl), (Nat.le_of_ble_eq_true rfl)⟩ dX12_copy_37 (fun r37 N37 w37 hpo37 hN37 => ?_)
          obtain ⟨rfl, rfl, rfl⟩ := hpo37
          refine x_v (w := (va_up (va_up v 161 (oM B (va_up F 3 1) V)) 164 (iarr E 320 it))) (up_at1 (by decide)).symm ?_
          refine x_st (st' := [.int (zI (-1000010 - 1))]) rfl ?_
          refine x_iret (pc := 40) K KR (by omega) (Nat.le_of_ble_eq_true rfl) (Nat.le_of_ble_eq_true rfl) dX12_copy_40 ?_
          exact ⟨rfl, (-1000010 - 1), (va_up F 3 1), it, (by (try simp only [Int.toNat_natCast]); first | exact Or.inl ⟨(by first | rfl | trivial | omega | assumption), (by first | rfl | trivial | omega | assumption), (by first | rfl | trivial | omega | assumption), (by first | rfl | trivial | omega | assumption)⟩ | exact Or.inr (Or.inl ⟨(by first | rfl | trivial | omega | assumption), (by first | rfl | trivial | omega | assumption), (by first | rfl | trivial | omega | assumption), (by first | rfl | trivial | omega | assumption), (by first | rfl | trivial | omega | assumption)⟩) | exact Or.inr (Or.inr (Or.inl ⟨(by first | rfl | trivial | omega | assumption), (by first | rfl | trivial | omega | assumption), (by first | rfl | trivial | omega | assumption), (by first | rfl | trivial | omega | assumption), (by first | rfl | trivial | omega | assumption), (by first | rfl | trivial | omega | assumption)⟩)) | exact Or.inr (Or.inr (Or.inr (Or.inl ⟨(by first | rfl | trivial | omega | assumption), (by first | rfl | trivial | omega | assumption), (by first | rfl | trivial | omega | assumption), (by first | rfl | trivial | omega | assumption), (by first | rfl | trivial | omega | assumption), (by first | rfl | trivial | omega | assumption), (by first | rfl | trivial | omega | assumption)⟩))) | exact Or.inr (Or.inr (Or.inr (Or.inr (⟨(by first | rfl | trivial | omega | assumption), (by first | rfl | trivial | omega | assumption), (by first | rfl | trivial | omega | assumption), (by first | rfl | trivial | omega | assumption), (by first | rfl | trivial | omega | assumption), (by first | rfl | trivial | omega | assumption), (by assumption)⟩))))), rfl, rfl⟩
    · skip
      have h_11 := bI_t h_11
      refine x_ldc (pc := 14) (x := (-1000001)) (-1000001) K (by decide) (by decide +kernel) dX12_copy_14 ?_
      refine x_iret (pc := 16) K KR (by omega) (Nat.le_of_ble_eq_true rfl) (Nat.le_of_ble_eq_true rfl) dX12_copy_16 ?_
      exact ⟨rfl, (-1000001), F, it, (by (try simp only [Int.toNat_natCast]); first | exact Or.inl ⟨(by first | rfl | trivial | omega | assumption), (by first | rfl | trivial | omega | assumption), (by first | rfl | trivial | omega | assumption), (by first | rfl | trivial | omega | assumption)⟩ | exact Or.inr (Or.inl ⟨(by first | rfl | trivial | omega | assumption), (by first | rfl | trivial | omega | assumption), (by first | rfl | trivial | omega | assumption), (by first | rfl | trivial | omega | assumption), (by first | rfl | trivial | omega | assumption)⟩) | exact Or.inr (Or.inr (Or.inl ⟨(by first | rfl | trivial | omega | assumption), (by first | rfl | trivial | omega | assumption), (by first | rfl | trivial | omega | assumption), (by first | rfl | trivial | omega | assumption), (by first | rfl | trivial | omega | assumption), (by first | rfl | trivial | omega | assumption)⟩)) | exact Or.inr (Or.inr (Or.inr (Or.inl ⟨(by first | rfl | trivial | omega | assumption), (by first | rfl | trivial | omega | assumption), (by first | rfl | trivial | omega | assumption), (by first | rfl | trivial | omega | assumption), (by first | rfl | trivial | omega | assumption), (by first | rfl | trivial | omega | assumption), (by first | rfl | trivial | omega | assumption)⟩))) | exact Or.inr (Or.inr (Or.inr (Or.inr (⟨(by first | rfl | trivial | omega | assumption), (by first | rfl | trivial | omega | assumption), (by first | rfl | trivial | omega | assumption), (by first | rfl | trivial | omega | assumption), (by first | rfl | trivial | omega | assumption), (by first | rfl | trivial | omega | assumption), (by assumption)⟩))))), rfl, rfl⟩
