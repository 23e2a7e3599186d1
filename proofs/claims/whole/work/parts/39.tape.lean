theorem dX8_isBlank_0 : decode cX8_isBlank 0 = .ok (.iload_n 0, 1) := by decide +kernel
theorem dX8_isBlank_1 : decode cX8_isBlank 1 = .ok (.bipush 32, 2) := by decide +kernel
theorem dX8_isBlank_3 : decode cX8_isBlank 3 = .ok (.if_icmp .eq 9, 3) := by decide +kernel
theorem dX8_isBlank_12 : decode cX8_isBlank 12 = .ok (.iconst 1, 1) := by decide +kernel
theorem dX8_isBlank_13 : decode cX8_isBlank 13 = .ok (.goto 4, 3) := by decide +kernel
theorem dX8_isBlank_17 : decode cX8_isBlank 17 = .ok (.ireturn, 1) := by decide +kernel
theorem dX8_isBlank_6 : decode cX8_isBlank 6 = .ok (.iload_n 0, 1) := by decide +kernel
theorem dX8_isBlank_7 : decode cX8_isBlank 7 = .ok (.bipush 10, 2) := by decide +kernel
theorem dX8_isBlank_9 : decode cX8_isBlank 9 = .ok (.if_icmp .ne 7, 3) := by decide +kernel
theorem dX8_isBlank_16 : decode cX8_isBlank 16 = .ok (.iconst 0, 1) := by decide +kernel
theorem dX8_isLetter_0 : decode cX8_isLetter 0 = .ok (.iload_n 0, 1) := by decide +kernel
theorem dX8_isLetter_1 : decode cX8_isLetter 1 = .ok (.bipush 97, 2) := by decide +kernel
theorem dX8_isLetter_3 : decode cX8_isLetter 3 = .ok (.if_icmp .lt 13, 3) := by decide +kernel
theorem dX8_isLetter_16 : decode cX8_isLetter 16 = .ok (.iconst 0, 1) := by decide +kernel
theorem dX8_isLetter_17 : decode cX8_isLetter 17 = .ok (.ireturn, 1) := by decide +kernel
theorem dX8_isLetter_6 : decode cX8_isLetter 6 = .ok (.iload_n 0, 1) := by decide +kernel
theorem dX8_isLetter_7 : decode cX8_isLetter 7 = .ok (.bipush 122, 2) := by decide +kernel
theorem dX8_isLetter_9 : decode cX8_isLetter 9 = .ok (.if_icmp .gt 7, 3) := by decide +kernel
theorem dX8_isLetter_12 : decode cX8_isLetter 12 = .ok (.iconst 1, 1) := by decide +kernel
theorem dX8_isLetter_13 : decode cX8_isLetter 13 = .ok (.goto 4, 3) := by decide +kernel
theorem dX8_isFigure_0 : decode cX8_isFigure 0 = .ok (.iload_n 0, 1) := by decide +kernel
theorem dX8_isFigure_1 : decode cX8_isFigure 1 = .ok (.bipush 48, 2) := by decide +kernel
theorem dX8_isFigure_3 : decode cX8_isFigure 3 = .ok (.if_icmp .lt 13, 3) := by decide +kernel
theorem dX8_isFigure_16 : decode cX8_isFigure 16 = .ok (.iconst 0, 1) := by decide +kernel
theorem dX8_isFigure_17 : decode cX8_isFigure 17 = .ok (.ireturn, 1) := by decide +kernel
theorem dX8_isFigure_6 : decode cX8_isFigure 6 = .ok (.iload_n 0, 1) := by decide +kernel
theorem dX8_isFigure_7 : decode cX8_isFigure 7 = .ok (.bipush 57, 2) := by decide +kernel
theorem dX8_isFigure_9 : decode cX8_isFigure 9 = .ok (.if_icmp .gt 7, 3) := by decide +kernel
theorem dX8_isFigure_12 : decode cX8_isFigure 12 = .ok (.iconst 1, 1) := by decide +kernel
theorem dX8_isFigure_13 : decode cX8_isFigure 13 = .ok (.goto 4, 3) := by decide +kernel
theorem dX8_stepOverName_0 : decode cX8_stepOverName 0 = .ok (.aload_n 0, 1) := by decide +kernel
theorem dX8_stepOverName_1 : decode cX8_stepOverName 1 = .ok (.getfield 34, 3) := by decide +kernel
theorem dX8_stepOverName_4 : decode cX8_stepOverName 4 = .ok (.aload_n 0, 1) := by decide +kernel
theorem dX8_stepOverName_5 : decode cX8_stepOverName 5 = .ok (.getfield 18, 3) := by decide +kernel
theorem dX8_stepOverName_8 : decode cX8_stepOverName 8 = .ok (.if_icmp .ge 31, 3) := by decide +kernel
theorem dX8_stepOverName_39 : decode cX8_stepOverName 39 = .ok (.aload_n 0, 1) := by decide +kernel
theorem dX8_stepOverName_40 : decode cX8_stepOverName 40 = .ok (.iconst 1, 1) := by decide +kernel
theorem dX8_stepOverName_41 : decode cX8_stepOverName 41 = .ok (.putfield 28, 3) := by decide +kernel
theorem dX8_stepOverName_44 : decode cX8_stepOverName 44 = .ok (.return_, 1) := by decide +kernel
theorem dX8_stepOverName_11 : decode cX8_stepOverName 11 = .ok (.aload_n 0, 1) := by decide +kernel
theorem dX8_stepOverName_12 : decode cX8_stepOverName 12 = .ok (.getfield 11, 3) := by decide +kernel
theorem dX8_stepOverName_15 : decode cX8_stepOverName 15 = .ok (.aload_n 0, 1) := by decide +kernel
theorem dX8_stepOverName_16 : decode cX8_stepOverName 16 = .ok (.getfield 34, 3) := by decide +kernel
theorem dX8_stepOverName_19 : decode cX8_stepOverName 19 = .ok (.iaload, 1) := by decide +kernel
set_option maxRecDepth 20000 in
theorem ggX8_stepOverName_X8_isLetter : GoodIn wsX8_stepOverName wsX8_isLetter := goodIn_r _ [8] (by decide +kernel) (by decide +kernel)
set_option maxRecDepth 20000 in
theorem gX8_stepOverName_X8_isLetter : GoodIn wsX8_stepOverName (va_wsS RX8 143 yX8_isLetter wsX8_isLetter) := goodIn_app (goodIn_of _ (by decide +kernel)) ggX8_stepOverName_X8_isLetter
theorem dX8_stepOverName_20 : decode cX8_stepOverName 20 = .ok (.invokestatic 143, 3) := by decide +kernel
theorem dX8_stepOverName_23 : decode cX8_stepOverName 23 = .ok (.ifCond .eq 16, 3) := by decide +kernel
theorem dX8_stepOverName_26 : decode cX8_stepOverName 26 = .ok (.aload_n 0, 1) := by decide +kernel
theorem dX8_stepOverName_27 : decode cX8_stepOverName 27 = .ok (.dup, 1) := by decide +kernel
theorem dX8_stepOverName_28 : decode cX8_stepOverName 28 = .ok (.getfield 34, 3) := by decide +kernel
theorem dX8_stepOverName_31 : decode cX8_stepOverName 31 = .ok (.iconst 1, 1) := by decide +kernel
theorem dX8_stepOverName_32 : decode cX8_stepOverName 32 = .ok (.iadd, 1) := by decide +kernel
theorem dX8_stepOverName_33 : decode cX8_stepOverName 33 = .ok (.putfield 34, 3) := by decide +kernel
theorem dX8_stepOverName_36 : decode cX8_stepOverName 36 = .ok (.goto (-36), 3) := by decide +kernel
theorem dX8_stepOverNumber_0 : decode cX8_stepOverNumber 0 = .ok (.aload_n 0, 1) := by decide +kernel
theorem dX8_stepOverNumber_1 : decode cX8_stepOverNumber 1 = .ok (.iconst 0, 1) := by decide +kernel
theorem dX8_stepOverNumber_2 : decode cX8_stepOverNumber 2 = .ok (.putfield 37, 3) := by decide +kernel
theorem dX8_stepOverNumber_5 : decode cX8_stepOverNumber 5 = .ok (.aload_n 0, 1) := by decide +kernel
theorem dX8_stepOverNumber_6 : decode cX8_stepOverNumber 6 = .ok (.getfield 34, 3) := by decide +kernel
theorem dX8_stepOverNumber_9 : decode cX8_stepOverNumber 9 = .ok (.aload_n 0, 1) := by decide +kernel
theorem dX8_stepOverNumber_10 : decode cX8_stepOverNumber 10 = .ok (.getfield 18, 3) := by decide +kernel
theorem dX8_stepOverNumber_13 : decode cX8_stepOverNumber 13 = .ok (.if_icmp .ge 55, 3) := by decide +kernel
theorem dX8_stepOverNumber_68 : decode cX8_stepOverNumber 68 = .ok (.aload_n 0, 1) := by decide +kernel
theorem dX8_stepOverNumber_69 : decode cX8_stepOverNumber 69 = .ok (.aload_n 0, 1) := by decide +kernel
theorem dX8_stepOverNumber_70 : decode cX8_stepOverNumber 70 = .ok (.getfield 34, 3) := by decide +kernel
theorem dX8_stepOverNumber_73 : decode cX8_stepOverNumber 73 = .ok (.aload_n 0, 1) := by decide +kernel
theorem dX8_stepOverNumber_74 : decode cX8_stepOverNumber 74 = .ok (.getfield 31, 3) := by decide +kernel
theorem dX8_stepOverNumber_77 : decode cX8_stepOverNumber 77 = .ok (.isub, 1) := by decide +kernel
theorem dX8_stepOverNumber_78 : decode cX8_stepOverNumber 78 = .ok (.iconst 3, 1) := by decide +kernel
theorem dX8_stepOverNumber_79 : decode cX8_stepOverNumber 79 = .ok (.if_icmp .gt 7, 3) := by decide +kernel
theorem dX8_stepOverNumber_86 : decode cX8_stepOverNumber 86 = .ok (.iconst 4, 1) := by decide +kernel
theorem dX8_stepOverNumber_87 : decode cX8_stepOverNumber 87 = .ok (.putfield 28, 3) := by decide +kernel
theorem dX8_stepOverNumber_90 : decode cX8_stepOverNumber 90 = .ok (.return_, 1) := by decide +kernel
theorem dX8_stepOverNumber_82 : decode cX8_stepOverNumber 82 = .ok (.iconst 2, 1) := by decide +kernel
theorem dX8_stepOverNumber_83 : decode cX8_stepOverNumber 83 = .ok (.goto 4, 3) := by decide +kernel
theorem dX8_stepOverNumber_16 : decode cX8_stepOverNumber 16 = .ok (.aload_n 0, 1) := by decide +kernel
theorem dX8_stepOverNumber_17 : decode cX8_stepOverNumber 17 = .ok (.getfield 11, 3) := by decide +kernel
theorem dX8_stepOverNumber_20 : decode cX8_stepOverNumber 20 = .ok (.aload_n 0, 1) := by decide +kernel
theorem dX8_stepOverNumber_21 : decode cX8_stepOverNumber 21 = .ok (.getfield 34, 3) := by decide +kernel
theorem dX8_stepOverNumber_24 : decode cX8_stepOverNumber 24 = .ok (.iaload, 1) := by decide +kernel
set_option maxRecDepth 20000 in
theorem ggX8_stepOverNumber_X8_isFigure : GoodIn wsX8_stepOverNumber wsX8_isFigure := goodIn_r _ [10] (by decide +kernel) (by decide +kernel)
set_option maxRecDepth 20000 in
theorem gX8_stepOverNumber_X8_isFigure : GoodIn wsX8_stepOverNumber (va_wsS RX8 149 yX8_isFigure wsX8_isFigure) := goodIn_app (goodIn_of _ (by decide +kernel)) ggX8_stepOverNumber_X8_isFigure
theorem dX8_stepOverNumber_25 : decode cX8_stepOverNumber 25 = .ok (.invokestatic 149, 3) := by decide +kernel
theorem dX8_stepOverNumber_28 : decode cX8_stepOverNumber 28 = .ok (.ifCond .eq 40, 3) := by decide +kernel
theorem dX8_stepOverNumber_31 : decode cX8_stepOverNumber 31 = .ok (.aload_n 0, 1) := by decide +kernel
theorem dX8_stepOverNumber_32 : decode cX8_stepOverNumber 32 = .ok (.bipush 10, 2) := by decide +kernel
theorem dX8_stepOverNumber_34 : decode cX8_stepOverNumber 34 = .ok (.aload_n 0, 1) := by decide +kernel
theorem dX8_stepOverNumber_35 : decode cX8_stepOverNumber 35 = .ok (.getfield 37, 3) := by decide +kernel
theorem dX8_stepOverNumber_38 : decode cX8_stepOverNumber 38 = .ok (.imul, 1) := by decide +kernel
theorem dX8_stepOverNumber_39 : decode cX8_stepOverNumber 39 = .ok (.aload_n 0, 1) := by decide +kernel
theorem dX8_stepOverNumber_40 : decode cX8_stepOverNumber 40 = .ok (.getfield 11, 3) := by decide +kernel
theorem dX8_stepOverNumber_43 : decode cX8_stepOverNumber 43 = .ok (.aload_n 0, 1) := by decide +kernel
theorem dX8_stepOverNumber_44 : decode cX8_stepOverNumber 44 = .ok (.getfield 34, 3) := by decide +kernel
theorem dX8_stepOverNumber_47 : decode cX8_stepOverNumber 47 = .ok (.iaload, 1) := by decide +kernel
theorem dX8_stepOverNumber_48 : decode cX8_stepOverNumber 48 = .ok (.iadd, 1) := by decide +kernel
theorem dX8_stepOverNumber_49 : decode cX8_stepOverNumber 49 = .ok (.bipush 48, 2) := by decide +kernel
theorem dX8_stepOverNumber_51 : decode cX8_stepOverNumber 51 = .ok (.isub, 1) := by decide +kernel
theorem dX8_stepOverNumber_52 : decode cX8_stepOverNumber 52 = .ok (.putfield 37, 3) := by decide +kernel
theorem dX8_stepOverNumber_55 : decode cX8_stepOverNumber 55 = .ok (.aload_n 0, 1) := by decide +kernel
theorem dX8_stepOverNumber_56 : decode cX8_stepOverNumber 56 = .ok (.dup, 1) := by decide +kernel
theorem dX8_stepOverNumber_57 : decode cX8_stepOverNumber 57 = .ok (.getfield 34, 3) := by decide +kernel
theorem dX8_stepOverNumber_60 : decode cX8_stepOverNumber 60 = .ok (.iconst 1, 1) := by decide +kernel
theorem dX8_stepOverNumber_61 : decode cX8_stepOverNumber 61 = .ok (.iadd, 1) := by decide +kernel
theorem dX8_stepOverNumber_62 : decode cX8_stepOverNumber 62 = .ok (.putfield 34, 3) := by decide +kernel
theorem dX8_stepOverNumber_65 : decode cX8_stepOverNumber 65 = .ok (.goto (-60), 3) := by decide +kernel
theorem dX8_step_0 : decode cX8_step 0 = .ok (.aload_n 0, 1) := by decide +kernel
theorem dX8_step_1 : decode cX8_step 1 = .ok (.aload_n 0, 1) := by decide +kernel
theorem dX8_step_2 : decode cX8_step 2 = .ok (.getfield 34, 3) := by decide +kernel
theorem dX8_step_5 : decode cX8_step 5 = .ok (.putfield 31, 3) := by decide +kernel
theorem dX8_step_8 : decode cX8_step 8 = .ok (.aload_n 0, 1) := by decide +kernel
theorem dX8_step_9 : decode cX8_step 9 = .ok (.getfield 31, 3) := by decide +kernel
theorem dX8_step_12 : decode cX8_step 12 = .ok (.aload_n 0, 1) := by decide +kernel
theorem dX8_step_13 : decode cX8_step 13 = .ok (.getfield 18, 3) := by decide +kernel
theorem dX8_step_16 : decode cX8_step 16 = .ok (.if_icmp .ge 31, 3) := by decide +kernel
theorem dX8_step_47 : decode cX8_step 47 = .ok (.aload_n 0, 1) := by decide +kernel
theorem dX8_step_48 : decode cX8_step 48 = .ok (.aload_n 0, 1) := by decide +kernel
theorem dX8_step_49 : decode cX8_step 49 = .ok (.getfield 31, 3) := by decide +kernel
theorem dX8_step_52 : decode cX8_step 52 = .ok (.putfield 34, 3) := by decide +kernel
theorem dX8_step_55 : decode cX8_step 55 = .ok (.aload_n 0, 1) := by decide +kernel
theorem dX8_step_56 : decode cX8_step 56 = .ok (.getfield 31, 3) := by decide +kernel
theorem dX8_step_59 : decode cX8_step 59 = .ok (.aload_n 0, 1) := by decide +kernel
theorem dX8_step_60 : decode cX8_step 60 = .ok (.getfield 18, 3) := by decide +kernel
theorem dX8_step_63 : decode cX8_step 63 = .ok (.if_icmp .lt 11, 3) := by decide +kernel
theorem dX8_step_66 : decode cX8_step 66 = .ok (.aload_n 0, 1) := by decide +kernel
theorem dX8_step_67 : decode cX8_step 67 = .ok (.iconst 0, 1) := by decide +kernel
theorem dX8_step_68 : decode cX8_step 68 = .ok (.putfield 28, 3) := by decide +kernel
theorem dX8_step_71 : decode cX8_step 71 = .ok (.goto 80, 3) := by decide +kernel
theorem dX8_step_151 : decode cX8_step 151 = .ok (.return_, 1) := by decide +kernel
theorem dX8_step_19 : decode cX8_step 19 = .ok (.aload_n 0, 1) := by decide +kernel
theorem dX8_step_20 : decode cX8_step 20 = .ok (.getfield 11, 3) := by decide +kernel
theorem dX8_step_23 : decode cX8_step 23 = .ok (.aload_n 0, 1) := by decide +kernel
theorem dX8_step_24 : decode cX8_step 24 = .ok (.getfield 31, 3) := by decide +kernel
theorem dX8_step_27 : decode cX8_step 27 = .ok (.iaload, 1) := by decide +kernel
set_option maxRecDepth 20000 in
theorem ggX8_step_X8_isBlank : GoodIn wsX8_step wsX8_isBlank := goodIn_r _ [9] (by decide +kernel) (by decide +kernel)
set_option maxRecDepth 20000 in
theorem gX8_step_X8_isBlank : GoodIn wsX8_step (va_wsS RX8 140 yX8_isBlank wsX8_isBlank) := goodIn_app (goodIn_of _ (by decide +kernel)) ggX8_step_X8_isBlank
theorem dX8_step_28 : decode cX8_step 28 = .ok (.invokestatic 140, 3) := by decide +kernel
theorem dX8_step_31 : decode cX8_step 31 = .ok (.ifCond .eq 16, 3) := by decide +kernel
theorem dX8_step_74 : decode cX8_step 74 = .ok (.aload_n 0, 1) := by decide +kernel
theorem dX8_step_75 : decode cX8_step 75 = .ok (.getfield 11, 3) := by decide +kernel
theorem dX8_step_78 : decode cX8_step 78 = .ok (.aload_n 0, 1) := by decide +kernel
theorem dX8_step_79 : decode cX8_step 79 = .ok (.getfield 31, 3) := by decide +kernel
theorem dX8_step_82 : decode cX8_step 82 = .ok (.iaload, 1) := by decide +kernel
set_option maxRecDepth 20000 in
theorem ggX8_step_X8_isLetter : GoodIn wsX8_step wsX8_isLetter := goodIn_r _ [12] (by decide +kernel) (by decide +kernel)
set_option maxRecDepth 20000 in
theorem gX8_step_X8_isLetter : GoodIn wsX8_step (va_wsS RX8 143 yX8_isLetter wsX8_isLetter) := goodIn_app (goodIn_of _ (by decide +kernel)) ggX8_step_X8_isLetter
theorem dX8_step_83 : decode cX8_step 83 = .ok (.invokestatic 143, 3) := by decide +kernel
theorem dX8_step_86 : decode cX8_step 86 = .ok (.ifCond .eq 10, 3) := by decide +kernel
theorem dX8_step_96 : decode cX8_step 96 = .ok (.aload_n 0, 1) := by decide +kernel
theorem dX8_step_97 : decode cX8_step 97 = .ok (.getfield 11, 3) := by decide +kernel
theorem dX8_step_100 : decode cX8_step 100 = .ok (.aload_n 0, 1) := by decide +kernel
theorem dX8_step_101 : decode cX8_step 101 = .ok (.getfield 31, 3) := by decide +kernel
theorem dX8_step_104 : decode cX8_step 104 = .ok (.iaload, 1) := by decide +kernel
set_option maxRecDepth 20000 in
theorem ggX8_step_X8_isFigure : GoodIn wsX8_step wsX8_isFigure := goodIn_r _ [19] (by decide +kernel) (by decide +kernel)
set_option maxRecDepth 20000 in
theorem gX8_step_X8_isFigure : GoodIn wsX8_step (va_wsS RX8 149 yX8_isFigure wsX8_isFigure) := goodIn_app (goodIn_of _ (by decide +kernel)) ggX8_step_X8_isFigure
theorem dX8_step_105 : decode cX8_step 105 = .ok (.invokestatic 149, 3) := by decide +kernel
theorem dX8_step_108 : decode cX8_step 108 = .ok (.ifCond .eq 10, 3) := by decide +kernel
theorem dX8_step_118 : decode cX8_step 118 = .ok (.aload_n 0, 1) := by decide +kernel
theorem dX8_step_119 : decode cX8_step 119 = .ok (.aload_n 0, 1) := by decide +kernel
theorem dX8_step_120 : decode cX8_step 120 = .ok (.getfield 11, 3) := by decide +kernel
theorem dX8_step_123 : decode cX8_step 123 = .ok (.aload_n 0, 1) := by decide +kernel
theorem dX8_step_124 : decode cX8_step 124 = .ok (.getfield 31, 3) := by decide +kernel
theorem dX8_step_127 : decode cX8_step 127 = .ok (.iaload, 1) := by decide +kernel
theorem dX8_step_128 : decode cX8_step 128 = .ok (.bipush 59, 2) := by decide +kernel
theorem dX8_step_130 : decode cX8_step 130 = .ok (.if_icmp .ne 7, 3) := by decide +kernel
theorem dX8_step_137 : decode cX8_step 137 = .ok (.iconst 4, 1) := by decide +kernel
theorem dX8_step_138 : decode cX8_step 138 = .ok (.putfield 28, 3) := by decide +kernel
theorem dX8_step_141 : decode cX8_step 141 = .ok (.aload_n 0, 1) := by decide +kernel
theorem dX8_step_142 : decode cX8_step 142 = .ok (.aload_n 0, 1) := by decide +kernel
theorem dX8_step_143 : decode cX8_step 143 = .ok (.getfield 31, 3) := by decide +kernel
theorem dX8_step_146 : decode cX8_step 146 = .ok (.iconst 1, 1) := by decide +kernel
theorem dX8_step_147 : decode cX8_step 147 = .ok (.iadd, 1) := by decide +kernel
theorem dX8_step_148 : decode cX8_step 148 = .ok (.putfield 34, 3) := by decide +kernel
theorem dX8_step_133 : decode cX8_step 133 = .ok (.iconst 3, 1) := by decide +kernel
theorem dX8_step_134 : decode cX8_step 134 = .ok (.goto 4, 3) := by decide +kernel
theorem dX8_step_111 : decode cX8_step 111 = .ok (.aload_n 0, 1) := by decide +kernel
set_option maxRecDepth 20000 in
theorem ggX8_step_X8_stepOverNumber : GoodIn wsX8_step wsX8_stepOverNumber := goodIn_r _ [23, 24, 1, 3, 4, 2, 5, 17, 18, 8, 19, 25, 26, 27, 28, 29, 30, 31, 32, 33] (by decide +kernel) (by decide +kernel)
set_option maxRecDepth 20000 in
theorem gX8_step_X8_stepOverNumber : GoodIn wsX8_step (wsV RX8 152 RX8 yX8_stepOverNumber wsX8_stepOverNumber) := goodIn_app (goodIn_of _ (by decide +kernel)) ggX8_step_X8_stepOverNumber
theorem dX8_step_112 : decode cX8_step 112 = .ok (.invokevirtual 152, 3) := by decide +kernel
theorem dX8_step_115 : decode cX8_step 115 = .ok (.goto 36, 3) := by decide +kernel
theorem dX8_step_89 : decode cX8_step 89 = .ok (.aload_n 0, 1) := by decide +kernel
set_option maxRecDepth 20000 in
theorem ggX8_step_X8_stepOverName : GoodIn wsX8_step wsX8_stepOverName := goodIn_r _ [16, 1, 3, 4, 5, 10, 11, 8, 12, 25, 26, 27, 28, 29, 30, 31, 32, 33] (by decide +kernel) (by decide +kernel)
set_option maxRecDepth 20000 in
theorem gX8_step_X8_stepOverName : GoodIn wsX8_step (wsV RX8 146 RX8 yX8_stepOverName wsX8_stepOverName) := goodIn_app (goodIn_of _ (by decide +kernel)) ggX8_step_X8_stepOverName
theorem dX8_step_90 : decode cX8_step 90 = .ok (.invokevirtual 146, 3) := by decide +kernel
theorem dX8_step_93 : decode cX8_step 93 = .ok (.goto 58, 3) := by decide +kernel
theorem dX8_step_34 : decode cX8_step 34 = .ok (.aload_n 0, 1) := by decide +kernel
theorem dX8_step_35 : decode cX8_step 35 = .ok (.dup, 1) := by decide +kernel
theorem dX8_step_36 : decode cX8_step 36 = .ok (.getfield 31, 3) := by decide +kernel
theorem dX8_step_39 : decode cX8_step 39 = .ok (.iconst 1, 1) := by decide +kernel
theorem dX8_step_40 : decode cX8_step 40 = .ok (.iadd, 1) := by decide +kernel
theorem dX8_step_41 : decode cX8_step 41 = .ok (.putfield 31, 3) := by decide +kernel
theorem dX8_step_44 : decode cX8_step 44 = .ok (.goto (-36), 3) := by decide +kernel
set_option maxRecDepth 100000 in
set_option maxHeartbeats 4000000 in
theorem c_X8_isBlank {E : XE} {B N : Nat} {v : Nat → va_E} {x : Int} (hq0 : (-2147483648 ≤ x ∧ x ≤ 2147483647)) : gM yX8_isBlank wsX8_isBlank ({ frames := 0, cells := 0, slots := 0, locals := 0 }) E B N v [.int (zI x)] (po0 N (fun ρ v' => ρ = some (.int (zI (bI (x = 32 ∨ x = 10)))) ∧ v = v')) := by
  refine x_met (nm := "isBlank") (by decide +kernel) rfl (Nat.le_of_ble_eq_true rfl) rfl (fun Γ K KR hnL hnm => ?_)
  show XW Γ N v [(0, .int (zI x))] 0 0 0 []
  refine x_iload_n (pc := 0) 0 K rfl rfl dX8_isBlank_0 ?_
  refine x_bipush (pc := 1) K (by decide) dX8_isBlank_1 ?_
  refine x_icmp_eq (pc := 3) (tgt := 12) K (by omega) (by decide) dX8_isBlank_3 (by decide) (fun h_3 => ?_) (fun h_3 => ?_)
  · skip
    refine x_iconst (pc := 12) K dX8_isBlank_12 ?_
    refine x_goto (pc := 13) (tgt := 17) K dX8_isBlank_13 (by decide) ?_
    refine x_zret (pc := 17) K KR (by omega) (Nat.le_of_ble_eq_true rfl) (Nat.le_of_ble_eq_true rfl) rfl dX8_isBlank_17 ?_
    exact ⟨rfl, ri (by unfold bI; split <;> omega), rfl⟩
  · skip
    refine x_iload_n (pc := 6) 0 K rfl rfl dX8_isBlank_6 ?_
    refine x_bipush (pc := 7) K (by decide) dX8_isBlank_7 ?_
    refine x_icmp_ne (pc := 9) (tgt := 16) K (by omega) (by decide) dX8_isBlank_9 (by decide) (fun h_9 => ?_) (fun h_9 => ?_)
    · skip
      refine x_iconst (pc := 16) K dX8_isBlank_16 ?_
      refine x_zret (pc := 17) K KR (by omega) (Nat.le_of_ble_eq_true rfl) (Nat.le_of_ble_eq_true rfl) rfl dX8_isBlank_17 ?_
      exact ⟨rfl, ri (by unfold bI; split <;> omega), rfl⟩
    · skip
      refine x_iconst (pc := 12) K dX8_isBlank_12 ?_
      refine x_goto (pc := 13) (tgt := 17) K dX8_isBlank_13 (by decide) ?_
      refine x_zret (pc := 17) K KR (by omega) (Nat.le_of_ble_eq_true rfl) (Nat.le_of_ble_eq_true rfl) rfl dX8_isBlank_17 ?_
      exact ⟨rfl, ri (by unfold bI; split <;> omega), rfl⟩

set_option maxRecDepth 100000 in
set_option maxHeartbeats 4000000 in
theorem c_X8_isLetter {E : XE} {B N : Nat} {v : Nat → va_E} {x : Int} (hq0 : (-2147483648 ≤ x ∧ x ≤ 2147483647)) : gM yX8_isLetter wsX8_isLetter ({ frames := 0, cells := 0, slots := 0, locals := 0 }) E B N v [.int (zI x)] (po0 N (fun ρ v' => ρ = some (.int (zI (bI (97 ≤ x ∧ x ≤ 122)))) ∧ v = v')) := by
  refine x_met (nm := "isLetter") (by decide +kernel) rfl (Nat.le_of_ble_eq_true rfl) rfl (fun Γ K KR hnL hnm => ?_)
  show XW Γ N v [(0, .int (zI x))] 0 0 0 []
  refine x_iload_n (pc := 0) 0 K rfl rfl dX8_isLetter_0 ?_
  refine x_bipush (pc := 1) K (by decide) dX8_isLetter_1 ?_
  refine x_icmp_lt (pc := 3) (tgt := 16) K (by omega) (by decide) dX8_isLetter_3 (by decide) (fun h_3 => ?_) (fun h_3 => ?_)
  · skip
    refine x_iconst (pc := 16) K dX8_isLetter_16 ?_
    refine x_zret (pc := 17) K KR (by omega) (Nat.le_of_ble_eq_true rfl) (Nat.le_of_ble_eq_true rfl) rfl dX8_isLetter_17 ?_
    exact ⟨rfl, ri (by unfold bI; split <;> omega), rfl⟩
  · skip
    refine x_iload_n (pc := 6) 0 K rfl rfl dX8_isLetter_6 ?_
    refine x_bipush (pc := 7) K (by decide) dX8_isLetter_7 ?_
    refine x_icmp_gt (pc := 9) (tgt := 16) K (by omega) (by decide) dX8_isLetter_9 (by decide) (fun h_9 => ?_) (fun h_9 => ?_)
    · skip
      refine x_iconst (pc := 16) K dX8_isLetter_16 ?_
      refine x_zret (pc := 17) K KR (by omega) (Nat.le_of_ble_eq_true rfl) (Nat.le_of_ble_eq_true rfl) rfl dX8_isLetter_17 ?_
      exact ⟨rfl, ri (by unfold bI; split <;> omega), rfl⟩
    · skip
      refine x_iconst (pc := 12) K dX8_isLetter_12 ?_
      refine x_goto (pc := 13) (tgt := 17) K dX8_isLetter_13 (by decide) ?_
      refine x_zret (pc := 17) K KR (by omega) (Nat.le_of_ble_eq_true rfl) (Nat.le_of_ble_eq_true rfl) rfl dX8_isLetter_17 ?_
      exact ⟨rfl, ri (by unfold bI; split <;> omega), rfl⟩

set_option maxRecDepth 100000 in
set_option maxHeartbeats 4000000 in
theorem c_X8_isFigure {E : XE} {B N : Nat} {v : Nat → va_E} {x : Int} (hq0 : (-2147483648 ≤ x ∧ x ≤ 2147483647)) : gM yX8_isFigure wsX8_isFigure ({ frames := 0, cells := 0, slots := 0, locals := 0 }) E B N v [.int (zI x)] (po0 N (fun ρ v' => ρ = some (.int (zI (bI (48 ≤ x ∧ x ≤ 57)))) ∧ v = v')) := by
  refine x_met (nm := "isFigure") (by decide +kernel) rfl (Nat.le_of_ble_eq_true rfl) rfl (fun Γ K KR hnL hnm => ?_)
  show XW Γ N v [(0, .int (zI x))] 0 0 0 []
  refine x_iload_n (pc := 0) 0 K rfl rfl dX8_isFigure_0 ?_
  refine x_bipush (pc := 1) K (by decide) dX8_isFigure_1 ?_
  refine x_icmp_lt (pc := 3) (tgt := 16) K (by omega) (by decide) dX8_isFigure_3 (by decide) (fun h_3 => ?_) (fun h_3 => ?_)
  · skip
    refine x_iconst (pc := 16) K dX8_isFigure_16 ?_
    refine x_zret (pc := 17) K KR (by omega) (Nat.le_of_ble_eq_true rfl) (Nat.le_of_ble_eq_true rfl) rfl dX8_isFigure_17 ?_
    exact ⟨rfl, ri (by unfold bI; split <;> omega), rfl⟩
  · skip
    refine x_iload_n (pc := 6) 0 K rfl rfl dX8_isFigure_6 ?_
    refine x_bipush (pc := 7) K (by decide) dX8_isFigure_7 ?_
    refine x_icmp_gt (pc := 9) (tgt := 16) K (by omega) (by decide) dX8_isFigure_9 (by decide) (fun h_9 => ?_) (fun h_9 => ?_)
    · skip
      refine x_iconst (pc := 16) K dX8_isFigure_16 ?_
      refine x_zret (pc := 17) K KR (by omega) (Nat.le_of_ble_eq_true rfl) (Nat.le_of_ble_eq_true rfl) rfl dX8_isFigure_17 ?_
      exact ⟨rfl, ri (by unfold bI; split <;> omega), rfl⟩
    · skip
      refine x_iconst (pc := 12) K dX8_isFigure_12 ?_
      refine x_goto (pc := 13) (tgt := 17) K dX8_isFigure_13 (by decide) ?_
      refine x_zret (pc := 17) K KR (by omega) (Nat.le_of_ble_eq_true rfl) (Nat.le_of_ble_eq_true rfl) rfl dX8_isFigure_17 ?_
      exact ⟨rfl, ri (by unfold bI; split <;> omega), rfl⟩

set_option maxRecDepth 100000 in
set_option maxHeartbeats 4000000 in
theorem c_X8_stepOverName {E : XE} {B N : Nat} {v : Nat → va_E} {f pl so vv : Int} {t : Nat → Int} {b n : Nat} (hc0 : Cel N v 2 (.inr (7, [.ref (B + 3), .ref (B + 4), .int (zI (n : Int)), .int (zI f), .int (zI pl), .int (zI so), .int (zI (b : Int)), .int (zI (b : Int)), .int (zI vv)]))) (hc1 : Cel N v 3 (iarr E 400 t)) (hq0 : b ≤ n ∧ n ≤ 400) (hq1 : ∀ i : Nat, 0 ≤ t i ∧ t i ≤ 255) : gM yX8_stepOverName wsX8_stepOverName ({ frames := 1, cells := 0, slots := 0, locals := 20 }) E B N v [.ref (B + 2)] (po0 N (fun ρ v' => ρ = none ∧ (va_up v 2 (.inr (7, [.ref (B + 3), .ref (B + 4), .int (zI (n : Int)), .int (zI f), .int (zI pl), .int (zI 1), .int (zI (b : Int)), .int (zI (((reT t n 1 b) : Nat) : Int)), .int (zI vv)]))) = v')) := by
  refine x_met (nm := "stepOverName") (by decide +kernel) rfl (Nat.le_of_ble_eq_true rfl) rfl (fun Γ K KR hnL hnm => ?_)
  show XW Γ N v [(0, .ref (B + 2))] 0 0 0 []
  refine x_v (cel_pad hc0) ?_
  have LOOP0 : ∀ (n_0 : Nat) (z : Nat), (z ≤ n) → (reT t n 1 z = reT t n 1 b) → (n - z) < n_0 → XW Γ N (va_up v 2 (.inr (7, [.ref (B + 3), .ref (B + 4), .int (zI (n : Int)), .int (zI f), .int (zI pl), .int (zI so), .int (zI (b : Int)), .int (zI (z : Int)), .int (zI vv)]))) [(0, .ref (B + 2))] 0 0 0 [] := by
    intro n_0
    induction n_0 with
    | zero =>
      intro z hi0_0 hi0_1 hm_0
      exfalso; omega
    | succ n_0 ih0 =>
      intro z hi0_0 hi0_1 hm_0
      refine x_aload_n (pc := 0) 0 K rfl rfl dX8_stepOverName_0 ?_
      refine x_get (pc := 1) (C := RX8) (T := TX8) (n := 9) (ci := 7) (idx := 34) (ref := "BorderBeds$Tape") (x := .int (zI (z : Int)))  K (cel_self hc0.1) rfl (by decide +kernel) 7 (by decide) (by decide +kernel) rfl rfl dX8_stepOverName_1 ?_
      refine x_aload_n (pc := 4) 0 K rfl rfl dX8_stepOverName_4 ?_
      refine x_get (pc := 5) (C := RX8) (T := TX8) (n := 9) (ci := 7) (idx := 18) (ref := "BorderBeds$Tape") (x := .int (zI (n : Int)))  K (cel_self hc0.1) rfl (by decide +kernel) 2 (by decide) (by decide +kernel) rfl rfl dX8_stepOverName_5 ?_
      refine x_icmp_ge (pc := 8) (tgt := 39) K (by omega) (by omega) dX8_stepOverName_8 (by decide) (fun h_8 => ?_) (fun h_8 => ?_)
      · skip
        have hE : reT t n 1 b = z := by rw [← hi0_1]; exact reT_end (by omega)
        refine x_aload_n (pc := 39) 0 K rfl rfl dX8_stepOverName_39 ?_
        refine x_iconst (pc := 40) K dX8_stepOverName_40 ?_
        refine x_put (pc := 41) (C := RX8) (T := TX8) (n := 9) (ci := 7) (idx := 28) (ref := "BorderBeds$Tape") (ty := .int)  K (cel_self hc0.1) rfl (by decide +kernel) tyX8 tyX8_ok nmX8 5 (by decide) (by decide +kernel) rfl rfl (by decide +kernel) rfl rfl (Nat.le_of_ble_eq_true rfl) dX8_stepOverName_41 ?_
        refine x_v (w := (va_up v 2 (.inr (7, [.ref (B + 3), .ref (B + 4), .int (zI (n : Int)), .int (zI f), .int (zI pl), .int (zI 1), .int (zI (b : Int)), .int (zI (z : Int)), .int (zI vv)])))) (up_at0).symm ?_
        refine x_vret (pc := 44) K KR (by omega) (Nat.le_of_ble_eq_true rfl) (Nat.le_of_ble_eq_true rfl) dX8_stepOverName_44 ?_
        exact ⟨rfl, rfl, by rw [hE]⟩
      · skip
        have b19 := hq1 z
        refine x_aload_n (pc := 11) 0 K rfl rfl dX8_stepOverName_11 ?_
        refine x_get (pc := 12) (C := RX8) (T := TX8) (n := 9) (ci := 7) (idx := 11) (ref := "BorderBeds$Tape") (x := .ref (B + 3))  K (cel_self hc0.1) rfl (by decide +kernel) 0 (by decide) (by decide +kernel) rfl rfl dX8_stepOverName_12 ?_
        refine x_aload_n (pc := 15) 0 K rfl rfl dX8_stepOverName_15 ?_
        refine x_get (pc := 16) (C := RX8) (T := TX8) (n := 9) (ci := 7) (idx := 34) (ref := "BorderBeds$Tape") (x := .int (zI (z : Int)))  K (cel_self hc0.1) rfl (by decide +kernel) 7 (by decide) (by decide +kernel) rfl rfl dX8_stepOverName_16 ?_
        refine x_iald (pc := 19) z K (cel_ne hc1 (by decide)) rfl (by omega) (by decide) dX8_stepOverName_19 ?_
        refine x_callS (pc := 20) (As := [.int (zI (t z))]) K (c_X8_isLetter (E := E) (B := B) (N := N)    (by omega)) gX8_stepOverName_X8_isLetter rfl (na := 1) (by decide +kernel) rfl ⟨(Nat.le_of_ble_eq_true rfl), (Nat.le_of_ble_eq_true rfl)⟩ (st := []) rfl (Nat.le_of_ble_eq_true rfl) ⟨(Nat.le_of_ble_eq_true rfl), (Nat.le_of_ble_eq_true rfl)⟩ dX8_stepOverName_20 (fun r20 N20 w20 hpo20 hN20 => ?_)
        obtain ⟨rfl, rfl, rfl⟩ := hpo20
        refine x_st (st' := [.int (zI (bI (97 ≤ (t z) ∧ (t z) ≤ 122)))]) rfl ?_
        have hrg20 := bI_rng (97 ≤ (t z) ∧ (t z) ≤ 122)
        refine x_if_eq (pc := 23) (tgt := 39) K (by omega) dX8_stepOverName_23 (by decide) (fun h_23 => ?_) (fun h_23 => ?_)
        · skip
          have h_23 := bI_t h_23
          have hE : reT t n 1 b = z := by rw [← hi0_1]; exact reT_end (fun q => h_23 (srt_1 q.2))
          refine x_aload_n (pc := 39) 0 K rfl rfl dX8_stepOverName_39 ?_
          refine x_iconst (pc := 40) K dX8_stepOverName_40 ?_
          refine x_put (pc := 41) (C := RX8) (T := TX8) (n := 9) (ci := 7) (idx := 28) (ref := "BorderBeds$Tape") (ty := .int)  K (cel_self hc0.1) rfl (by decide +kernel) tyX8 tyX8_ok nmX8 5 (by decide) (by decide +kernel) rfl rfl (by decide +kernel) rfl rfl (Nat.le_of_ble_eq_true rfl) dX8_stepOverName_41 ?_
          refine x_v (w := (va_up v 2 (.inr (7, [.ref (B + 3), .ref (B + 4), .int (zI (n : Int)), .int (zI f), .int (zI pl), .int (zI 1), .int (zI (b : Int)), .int (zI (z : Int)), .int (zI vv)])))) (up_at0).symm ?_
          refine x_vret (pc := 44) K KR (by omega) (Nat.le_of_ble_eq_true rfl) (Nat.le_of_ble_eq_true rfl) dX8_stepOverName_44 ?_
          exact ⟨rfl, rfl, by rw [hE]⟩
        · skip
          have h_23 := bI_f h_23
          refine x_aload_n (pc := 26) 0 K rfl rfl dX8_stepOverName_26 ?_
          refine x_dup (pc := 27) K rfl dX8_stepOverName_27 ?_
          refine x_get (pc := 28) (C := RX8) (T := TX8) (n := 9) (ci := 7) (idx := 34) (ref := "BorderBeds$Tape") (x := .int (zI (z : Int)))  K (cel_self hc0.1) rfl (by decide +kernel) 7 (by decide) (by decide +kernel) rfl rfl dX8_stepOverName_28 ?_
          refine x_iconst (pc := 31) K dX8_stepOverName_31 ?_
          refine x_iadd (pc := 32) K dX8_stepOverName_32 ?_
          refine x_put (pc := 33) (C := RX8) (T := TX8) (n := 9) (ci := 7) (idx := 34) (ref := "BorderBeds$Tape") (ty := .int)  K (cel_self hc0.1) rfl (by decide +kernel) tyX8 tyX8_ok nmX8 7 (by decide) (by decide +kernel) rfl rfl (by decide +kernel) rfl rfl (Nat.le_of_ble_eq_true rfl) dX8_stepOverName_33 ?_
          refine x_v (w := (va_up v 2 (.inr (7, [.ref (B + 3), .ref (B + 4), .int (zI (n : Int)), .int (zI f), .int (zI pl), .int (zI so), .int (zI (b : Int)), .int (zI ((z : Int) + 1)), .int (zI vv)])))) (up_at0).symm ?_
          refine x_goto (pc := 36) (tgt := 0) K dX8_stepOverName_36 (by decide) ?_
          exact ih0 (z + 1) (by omega) (by rw [← hi0_1]; exact reT_go (by omega) (by unfold srt; rw [if_pos h_23])) (by omega)
  exact LOOP0 (_) b (by omega) (by rfl) (Nat.lt_succ_self _)

set_option maxRecDepth 100000 in
set_option maxHeartbeats 4000000 in
theorem c_X8_stepOverNumber {E : XE} {B N : Nat} {v : Nat → va_E} {f pl so vv : Int} {t : Nat → Int} {b n : Nat} (hc0 : Cel N v 2 (.inr (7, [.ref (B + 3), .ref (B + 4), .int (zI (n : Int)), .int (zI f), .int (zI pl), .int (zI so), .int (zI (b : Int)), .int (zI (b : Int)), .int (zI vv)]))) (hc1 : Cel N v 3 (iarr E 400 t)) (hq0 : b ≤ n ∧ n ≤ 400) (hq1 : ∀ i : Nat, 0 ≤ t i ∧ t i ≤ 255) : gM yX8_stepOverNumber wsX8_stepOverNumber ({ frames := 1, cells := 0, slots := 0, locals := 20 }) E B N v [.ref (B + 2)] (po0 N (fun ρ v' => ρ = none ∧ (va_up v 2 (.inr (7, [.ref (B + 3), .ref (B + 4), .int (zI (n : Int)), .int (zI f), .int (zI pl), .int (zI (if 3 < reT t n 2 b - b then 4 else 2)), .int (zI (b : Int)), .int (zI (((reT t n 2 b) : Nat) : Int)), .int (zI (valN t b (reT t n 2 b - b)))]))) = v')) := by
  refine x_met (nm := "stepOverNumber") (by decide +kernel) rfl (Nat.le_of_ble_eq_true rfl) rfl (fun Γ K KR hnL hnm => ?_)
  show XW Γ N v [(0, .ref (B + 2))] 0 0 0 []
  refine x_v (cel_pad hc0) ?_
  refine x_aload_n (pc := 0) 0 K rfl rfl dX8_stepOverNumber_0 ?_
  refine x_iconst (pc := 1) K dX8_stepOverNumber_1 ?_
  refine x_put (pc := 2) (C := RX8) (T := TX8) (n := 9) (ci := 7) (idx := 37) (ref := "BorderBeds$Tape") (ty := .int)  K (cel_self hc0.1) rfl (by decide +kernel) tyX8 tyX8_ok nmX8 8 (by decide) (by decide +kernel) rfl rfl (by decide +kernel) rfl rfl (Nat.le_of_ble_eq_true rfl) dX8_stepOverNumber_2 ?_
  refine x_v (w := (va_up v 2 (.inr (7, [.ref (B + 3), .ref (B + 4), .int (zI (n : Int)), .int (zI f), .int (zI pl), .int (zI so), .int (zI (b : Int)), .int (zI (b : Int)), .int (zI 0)])))) (up_at0).symm ?_
  have LOOP5 : ∀ (n_5 : Nat) (z : Nat) (y : Int), (b ≤ z ∧ z ≤ n) → (reT t n 2 z = reT t n 2 b) → (y = valN t b (z - b)) → (n - z) < n_5 → XW Γ N (va_up v 2 (.inr (7, [.ref (B + 3), .ref (B + 4), .int (zI (n : Int)), .int (zI f), .int (zI pl), .int (zI so), .int (zI (b : Int)), .int (zI (z : Int)), .int (zI y)]))) [(0, .ref (B + 2))] 0 0 5 [] := by
    intro n_5
    induction n_5 with
    | zero =>
      intro z y hi5_0 hi5_1 hi5_2 hm_5
      exfalso; omega
    | succ n_5 ih5 =>
      intro z y hi5_0 hi5_1 hi5_2 hm_5
      refine x_aload_n (pc := 5) 0 K rfl rfl dX8_stepOverNumber_5 ?_
      refine x_get (pc := 6) (C := RX8) (T := TX8) (n := 9) (ci := 7) (idx := 34) (ref := "BorderBeds$Tape") (x := .int (zI (z : Int)))  K (cel_self hc0.1) rfl (by decide +kernel) 7 (by decide) (by decide +kernel) rfl rfl dX8_stepOverNumber_6 ?_
      refine x_aload_n (pc := 9) 0 K rfl rfl dX8_stepOverNumber_9 ?_
      refine x_get (pc := 10) (C := RX8) (T := TX8) (n := 9) (ci := 7) (idx := 18) (ref := "BorderBeds$Tape") (x := .int (zI (n : Int)))  K (cel_self hc0.1) rfl (by decide +kernel) 2 (by decide) (by decide +kernel) rfl rfl dX8_stepOverNumber_10 ?_
      refine x_icmp_ge (pc := 13) (tgt := 68) K (by omega) (by omega) dX8_stepOverNumber_13 (by decide) (fun h_13 => ?_) (fun h_13 => ?_)
      · skip
        have hE : reT t n 2 b = z := by rw [← hi5_1]; exact reT_end (by omega)
        refine x_aload_n (pc := 68) 0 K rfl rfl dX8_stepOverNumber_68 ?_
        refine x_aload_n (pc := 69) 0 K rfl rfl dX8_stepOverNumber_69 ?_
        refine x_get (pc := 70) (C := RX8) (T := TX8) (n := 9) (ci := 7) (idx := 34) (ref := "BorderBeds$Tape") (x := .int (zI (z : Int)))  K (cel_self hc0.1) rfl (by decide +kernel) 7 (by decide) (by decide +kernel) rfl rfl dX8_stepOverNumber_70 ?_
        refine x_aload_n (pc := 73) 0 K rfl rfl dX8_stepOverNumber_73 ?_
        refine x_get (pc := 74) (C := RX8) (T := TX8) (n := 9) (ci := 7) (idx := 31) (ref := "BorderBeds$Tape") (x := .int (zI (b : Int)))  K (cel_self hc0.1) rfl (by decide +kernel) 6 (by decide) (by decide +kernel) rfl rfl dX8_stepOverNumber_74 ?_
        refine x_isub (pc := 77) K dX8_stepOverNumber_77 ?_
        refine x_iconst (pc := 78) K dX8_stepOverNumber_78 ?_
        refine x_icmp_gt (pc := 79) (tgt := 86) K (by omega) (by decide) dX8_stepOverNumber_79 (by decide) (fun h_79 => ?_) (fun h_79 => ?_)
        · skip
          refine x_iconst (pc := 86) K dX8_stepOverNumber_86 ?_
          refine x_put (pc := 87) (C := RX8) (T := TX8) (n := 9) (ci := 7) (idx := 28) (ref := "BorderBeds$Tape") (ty := .int)  K (cel_self hc0.1) rfl (by decide +kernel) tyX8 tyX8_ok nmX8 5 (by decide) (by decide +kernel) rfl rfl (by decide +kernel) rfl rfl (Nat.le_of_ble_eq_true rfl) dX8_stepOverNumber_87 ?_
          refine x_v (w := (va_up v 2 (.inr (7, [.ref (B + 3), .ref (B + 4), .int (zI (n : Int)), .int (zI f), .int (zI pl), .int (zI 4), .int (zI (b : Int)), .int (zI (z : Int)), .int (zI y)])))) (up_at0).symm ?_
          refine x_vret (pc := 90) K KR (by omega) (Nat.le_of_ble_eq_true rfl) (Nat.le_of_ble_eq_true rfl) dX8_stepOverNumber_90 ?_
          exact ⟨rfl, rfl, by rw [hE, hi5_2, if_pos (by omega)]⟩
        · skip
          refine x_iconst (pc := 82) K dX8_stepOverNumber_82 ?_
          refine x_goto (pc := 83) (tgt := 87) K dX8_stepOverNumber_83 (by decide) ?_
          refine x_put (pc := 87) (C := RX8) (T := TX8) (n := 9) (ci := 7) (idx := 28) (ref := "BorderBeds$Tape") (ty := .int)  K (cel_self hc0.1) rfl (by decide +kernel) tyX8 tyX8_ok nmX8 5 (by decide) (by decide +kernel) rfl rfl (by decide +kernel) rfl rfl (Nat.le_of_ble_eq_true rfl) dX8_stepOverNumber_87 ?_
          refine x_v (w := (va_up v 2 (.inr (7, [.ref (B + 3), .ref (B + 4), .int (zI (n : Int)), .int (zI f), .int (zI pl), .int (zI 2), .int (zI (b : Int)), .int (zI (z : Int)), .int (zI y)])))) (up_at0).symm ?_
          refine x_vret (pc := 90) K KR (by omega) (Nat.le_of_ble_eq_true rfl) (Nat.le_of_ble_eq_true rfl) dX8_stepOverNumber_90 ?_
          exact ⟨rfl, rfl, by rw [hE, hi5_2, if_neg (by omega)]⟩
      · skip
        have b24 := hq1 z
        refine x_aload_n (pc := 16) 0 K rfl rfl dX8_stepOverNumber_16 ?_
        refine x_get (pc := 17) (C := RX8) (T := TX8) (n := 9) (ci := 7) (idx := 11) (ref := "BorderBeds$Tape") (x := .ref (B + 3))  K (cel_self hc0.1) rfl (by decide +kernel) 0 (by decide) (by decide +kernel) rfl rfl dX8_stepOverNumber_17 ?_
        refine x_aload_n (pc := 20) 0 K rfl rfl dX8_stepOverNumber_20 ?_
        refine x_get (pc := 21) (C := RX8) (T := TX8) (n := 9) (ci := 7) (idx := 34) (ref := "BorderBeds$Tape") (x := .int (zI (z : Int)))  K (cel_self hc0.1) rfl (by decide +kernel) 7 (by decide) (by decide +kernel) rfl rfl dX8_stepOverNumber_21 ?_
        refine x_iald (pc := 24) z K (cel_ne hc1 (by decide)) rfl (by omega) (by decide) dX8_stepOverNumber_24 ?_
        refine x_callS (pc := 25) (As := [.int (zI (t z))]) K (c_X8_isFigure (E := E) (B := B) (N := N)    (by omega)) gX8_stepOverNumber_X8_isFigure rfl (na := 1) (by decide +kernel) rfl ⟨(Nat.le_of_ble_eq_true rfl), (Nat.le_of_ble_eq_true rfl)⟩ (st := []) rfl (Nat.le_of_ble_eq_true rfl) ⟨(Nat.le_of_ble_eq_true rfl), (Nat.le_of_ble_eq_true rfl)⟩ dX8_stepOverNumber_25 (fun r25 N25 w25 hpo25 hN25 => ?_)
        obtain ⟨rfl, rfl, rfl⟩ := hpo25
        refine x_st (st' := [.int (zI (bI (48 ≤ (t z) ∧ (t z) ≤ 57)))]) rfl ?_
        have hrg25 := bI_rng (48 ≤ (t z) ∧ (t z) ≤ 57)
        refine x_if_eq (pc := 28) (tgt := 68) K (by omega) dX8_stepOverNumber_28 (by decide) (fun h_28 => ?_) (fun h_28 => ?_)
        · skip
          have h_28 := bI_t h_28
          have hE : reT t n 2 b = z := by rw [← hi5_1]; exact reT_end (fun q => h_28 (srt_2 q.2))
          refine x_aload_n (pc := 68) 0 K rfl rfl dX8_stepOverNumber_68 ?_
          refine x_aload_n (pc := 69) 0 K rfl rfl dX8_stepOverNumber_69 ?_
          refine x_get (pc := 70) (C := RX8) (T := TX8) (n := 9) (ci := 7) (idx := 34) (ref := "BorderBeds$Tape") (x := .int (zI (z : Int)))  K (cel_self hc0.1) rfl (by decide +kernel) 7 (by decide) (by decide +kernel) rfl rfl dX8_stepOverNumber_70 ?_
          refine x_aload_n (pc := 73) 0 K rfl rfl dX8_stepOverNumber_73 ?_
          refine x_get (pc := 74) (C := RX8) (T := TX8) (n := 9) (ci := 7) (idx := 31) (ref := "BorderBeds$Tape") (x := .int (zI (b : Int)))  K (cel_self hc0.1) rfl (by decide +kernel) 6 (by decide) (by decide +kernel) rfl rfl dX8_stepOverNumber_74 ?_
          refine x_isub (pc := 77) K dX8_stepOverNumber_77 ?_
          refine x_iconst (pc := 78) K dX8_stepOverNumber_78 ?_
          refine x_icmp_gt (pc := 79) (tgt := 86) K (by omega) (by decide) dX8_stepOverNumber_79 (by decide) (fun h_79 => ?_) (fun h_79 => ?_)
          · skip
            refine x_iconst (pc := 86) K dX8_stepOverNumber_86 ?_
            refine x_put (pc := 87) (C := RX8) (T := TX8) (n := 9) (ci := 7) (idx := 28) (ref := "BorderBeds$Tape") (ty := .int)  K (cel_self hc0.1) rfl (by decide +kernel) tyX8 tyX8_ok nmX8 5 (by decide) (by decide +kernel) rfl rfl (by decide +kernel) rfl rfl (Nat.le_of_ble_eq_true rfl) dX8_stepOverNumber_87 ?_
            refine x_v (w := (va_up v 2 (.inr (7, [.ref (B + 3), .ref (B + 4), .int (zI (n : Int)), .int (zI f), .int (zI pl), .int (zI 4), .int (zI (b : Int)), .int (zI (z : Int)), .int (zI y)])))) (up_at0).symm ?_
            refine x_vret (pc := 90) K KR (by omega) (Nat.le_of_ble_eq_true rfl) (Nat.le_of_ble_eq_true rfl) dX8_stepOverNumber_90 ?_
            exact ⟨rfl, rfl, by rw [hE, hi5_2, if_pos (by omega)]⟩
          · skip
            refine x_iconst (pc := 82) K dX8_stepOverNumber_82 ?_
            refine x_goto (pc := 83) (tgt := 87) K dX8_stepOverNumber_83 (by decide) ?_
            refine x_put (pc := 87) (C := RX8) (T := TX8) (n := 9) (ci := 7) (idx := 28) (ref := "BorderBeds$Tape") (ty := .int)  K (cel_self hc0.1) rfl (by decide +kernel) tyX8 tyX8_ok nmX8 5 (by decide) (by decide +kernel) rfl rfl (by decide +kernel) rfl rfl (Nat.le_of_ble_eq_true rfl) dX8_stepOverNumber_87 ?_
            refine x_v (w := (va_up v 2 (.inr (7, [.ref (B + 3), .ref (B + 4), .int (zI (n : Int)), .int (zI f), .int (zI pl), .int (zI 2), .int (zI (b : Int)), .int (zI (z : Int)), .int (zI y)])))) (up_at0).symm ?_
            refine x_vret (pc := 90) K KR (by omega) (Nat.le_of_ble_eq_true rfl) (Nat.le_of_ble_eq_true rfl) dX8_stepOverNumber_90 ?_
            exact ⟨rfl, rfl, by rw [hE, hi5_2, if_neg (by omega)]⟩
        · skip
          have h_28 := bI_f h_28
          refine x_aload_n (pc := 31) 0 K rfl rfl dX8_stepOverNumber_31 ?_
          refine x_bipush (pc := 32) K (by decide) dX8_stepOverNumber_32 ?_
          refine x_aload_n (pc := 34) 0 K rfl rfl dX8_stepOverNumber_34 ?_
          refine x_get (pc := 35) (C := RX8) (T := TX8) (n := 9) (ci := 7) (idx := 37) (ref := "BorderBeds$Tape") (x := .int (zI y))  K (cel_self hc0.1) rfl (by decide +kernel) 8 (by decide) (by decide +kernel) rfl rfl dX8_stepOverNumber_35 ?_
          refine x_imul (pc := 38) K dX8_stepOverNumber_38 ?_
          refine x_aload_n (pc := 39) 0 K rfl rfl dX8_stepOverNumber_39 ?_
          refine x_get (pc := 40) (C := RX8) (T := TX8) (n := 9) (ci := 7) (idx := 11) (ref := "BorderBeds$Tape") (x := .ref (B + 3))  K (cel_self hc0.1) rfl (by decide +kernel) 0 (by decide) (by decide +kernel) rfl rfl dX8_stepOverNumber_40 ?_
          refine x_aload_n (pc := 43) 0 K rfl rfl dX8_stepOverNumber_43 ?_
          refine x_get (pc := 44) (C := RX8) (T := TX8) (n := 9) (ci := 7) (idx := 34) (ref := "BorderBeds$Tape") (x := .int (zI (z : Int)))  K (cel_self hc0.1) rfl (by decide +kernel) 7 (by decide) (by decide +kernel) rfl rfl dX8_stepOverNumber_44 ?_
          refine x_iald (pc := 47) z K (cel_ne hc1 (by decide)) rfl (by omega) (by decide) dX8_stepOverNumber_47 ?_
          refine x_iadd (pc := 48) K dX8_stepOverNumber_48 ?_
          refine x_bipush (pc := 49) K (by decide) dX8_stepOverNumber_49 ?_
          refine x_isub (pc := 51) K dX8_stepOverNumber_51 ?_
          refine x_put (pc := 52) (C := RX8) (T := TX8) (n := 9) (ci := 7) (idx := 37) (ref := "BorderBeds$Tape") (ty := .int)  K (cel_self hc0.1) rfl (by decide +kernel) tyX8 tyX8_ok nmX8 8 (by decide) (by decide +kernel) rfl rfl (by decide +kernel) rfl rfl (Nat.le_of_ble_eq_true rfl) dX8_stepOverNumber_52 ?_
          refine x_v (w := (va_up v 2 (.inr (7, [.ref (B + 3), .ref (B + 4), .int (zI (n : Int)), .int (zI f), .int (zI pl), .int (zI so), .int (zI (b : Int)), .int (zI (z : Int)), .int (zI (((10 * y) + (t z)) - 48))])))) (up_at0).symm ?_
          refine x_aload_n (pc := 55) 0 K rfl rfl dX8_stepOverNumber_55 ?_
          refine x_dup (pc := 56) K rfl dX8_stepOverNumber_56 ?_
          refine x_get (pc := 57) (C := RX8) (T := TX8) (n := 9) (ci := 7) (idx := 34) (ref := "BorderBeds$Tape") (x := .int (zI (z : Int)))  K (cel_self hc0.1) rfl (by decide +kernel) 7 (by decide) (by decide +kernel) rfl rfl dX8_stepOverNumber_57 ?_
          refine x_iconst (pc := 60) K dX8_stepOverNumber_60 ?_
          refine x_iadd (pc := 61) K dX8_stepOverNumber_61 ?_
          refine x_put (pc := 62) (C := RX8) (T := TX8) (n := 9) (ci := 7) (idx := 34) (ref := "BorderBeds$Tape") (ty := .int)  K (cel_self hc0.1) rfl (by decide +kernel) tyX8 tyX8_ok nmX8 7 (by decide) (by decide +kernel) rfl rfl (by decide +kernel) rfl rfl (Nat.le_of_ble_eq_true rfl) dX8_stepOverNumber_62 ?_
          refine x_v (w := (va_up v 2 (.inr (7, [.ref (B + 3), .ref (B + 4), .int (zI (n : Int)), .int (zI f), .int (zI pl), .int (zI so), .int (zI (b : Int)), .int (zI ((z : Int) + 1)), .int (zI (((10 * y) + (t z)) - 48))])))) (up_at0).symm ?_
          refine x_goto (pc := 65) (tgt := 5) K dX8_stepOverNumber_65 (by decide) ?_
          exact ih5 (z + 1) (((10 * y) + (t z)) - 48) (by omega) (by rw [← hi5_1]; exact reT_go (by omega) (by unfold srt; rw [if_neg (by omega), if_pos h_28])) (by rw [show z + 1 - b = (z - b) + 1 by omega, hi5_2]; show _ = 10 * valN t b (z - b) + t (b + (z - b)) - 48; rw [show b + (z - b) = z by omega]) (by omega)
  exact LOOP5 (_) b 0 (by omega) (by rfl) (by rw [Nat.sub_self]; rfl) (Nat.lt_succ_self _)

set_option maxRecDepth 100000 in
set_option maxHeartbeats 4000000 in
theorem c_X8_step {E : XE} {B N : Nat} {v : Nat → va_E} {f pl so s vv : Int} {t : Nat → Int} {a n : Nat} (hc0 : Cel N v 2 (.inr (7, [.ref (B + 3), .ref (B + 4), .int (zI (n : Int)), .int (zI f), .int (zI pl), .int (zI so), .int (zI s), .int (zI (a : Int)), .int (zI vv)]))) (hc1 : Cel N v 3 (iarr E 400 t)) (hq0 : a ≤ n ∧ n ≤ 400) (hq1 : ∀ i : Nat, 0 ≤ t i ∧ t i ≤ 255) : gM yX8_step wsX8_step ({ frames := 2, cells := 0, slots := 0, locals := 40 }) E B N v [.ref (B + 2)] (po0 N (fun ρ v' => ∃ (v2 : Int), (tokK t n a = 2 → v2 = tokV t n a) ∧ ρ = none ∧ (va_up v 2 (.inr (7, [.ref (B + 3), .ref (B + 4), .int (zI (n : Int)), .int (zI f), .int (zI pl), .int (zI (tokK t n a)), .int (zI (((skT t n a) : Nat) : Int)), .int (zI (((tokE t n a) : Nat) : Int)), .int (zI v2)]))) = v')) := by
  refine x_met (nm := "step") (by decide +kernel) rfl (Nat.le_of_ble_eq_true rfl) rfl (fun Γ K KR hnL hnm => ?_)
  show XW Γ N v [(0, .ref (B + 2))] 0 0 0 []
  refine x_v (cel_pad hc0) ?_
  refine x_aload_n (pc := 0) 0 K rfl rfl dX8_step_0 ?_
  refine x_aload_n (pc := 1) 0 K rfl rfl dX8_step_1 ?_
  refine x_get (pc := 2) (C := RX8) (T := TX8) (n := 9) (ci := 7) (idx := 34) (ref := "BorderBeds$Tape") (x := .int (zI (a : Int)))  K (cel_self hc0.1) rfl (by decide +kernel) 7 (by decide) (by decide +kernel) rfl rfl dX8_step_2 ?_
  refine x_put (pc := 5) (C := RX8) (T := TX8) (n := 9) (ci := 7) (idx := 31) (ref := "BorderBeds$Tape") (ty := .int)  K (cel_self hc0.1) rfl (by decide +kernel) tyX8 tyX8_ok nmX8 6 (by decide) (by decide +kernel) rfl rfl (by decide +kernel) rfl rfl (Nat.le_of_ble_eq_true rfl) dX8_step_5 ?_
  refine x_v (w := (va_up v 2 (.inr (7, [.ref (B + 3), .ref (B + 4), .int (zI (n : Int)), .int (zI f), .int (zI pl), .int (zI so), .int (zI (a : Int)), .int (zI (a : Int)), .int (zI vv)])))) (up_at0).symm ?_
  have LOOP8 : ∀ (n_8 : Nat) (z : Nat), (z ≤ n) → (skT t n z = skT t n a) → (n - z) < n_8 → XW Γ N (va_up v 2 (.inr (7, [.ref (B + 3), .ref (B + 4), .int (zI (n : Int)), .int (zI f), .int (zI pl), .int (zI so), .int (zI (z : Int)), .int (zI (a : Int)), .int (zI vv)]))) [(0, .ref (B + 2))] 0 0 8 [] := by
    intro n_8
    induction n_8 with
    | zero =>
      intro z hi8_0 hi8_1 hm_8
      exfalso; omega
    | succ n_8 ih8 =>
      intro z hi8_0 hi8_1 hm_8
      refine x_aload_n (pc := 8) 0 K rfl rfl dX8_step_8 ?_
      refine x_get (pc := 9) (C := RX8) (T := TX8) (n := 9) (ci := 7) (idx := 31) (ref := "BorderBeds$Tape") (x := .int (zI (z : Int)))  K (cel_self hc0.1) rfl (by decide +kernel) 6 (by decide) (by decide +kernel) rfl rfl dX8_step_9 ?_
      refine x_aload_n (pc := 12) 0 K rfl rfl dX8_step_12 ?_
      refine x_get (pc := 13) (C := RX8) (T := TX8) (n := 9) (ci := 7) (idx := 18) (ref := "BorderBeds$Tape") (x := .int (zI (n : Int)))  K (cel_self hc0.1) rfl (by decide +kernel) 2 (by decide) (by decide +kernel) rfl rfl dX8_step_13 ?_
      refine x_icmp_ge (pc := 16) (tgt := 47) K (by omega) (by omega) dX8_step_16 (by decide) (fun h_16 => ?_) (fun h_16 => ?_)
      · skip
        have hE : skT t n a = z := by rw [← hi8_1]; exact skT_end (by omega)
        refine x_aload_n (pc := 47) 0 K rfl rfl dX8_step_47 ?_
        refine x_aload_n (pc := 48) 0 K rfl rfl dX8_step_48 ?_
        refine x_get (pc := 49) (C := RX8) (T := TX8) (n := 9) (ci := 7) (idx := 31) (ref := "BorderBeds$Tape") (x := .int (zI (z : Int)))  K (cel_self hc0.1) rfl (by decide +kernel) 6 (by decide) (by decide +kernel) rfl rfl dX8_step_49 ?_
        refine x_put (pc := 52) (C := RX8) (T := TX8) (n := 9) (ci := 7) (idx := 34) (ref := "BorderBeds$Tape") (ty := .int)  K (cel_self hc0.1) rfl (by decide +kernel) tyX8 tyX8_ok nmX8 7 (by decide) (by decide +kernel) rfl rfl (by decide +kernel) rfl rfl (Nat.le_of_ble_eq_true rfl) dX8_step_52 ?_
        refine x_v (w := (va_up v 2 (.inr (7, [.ref (B + 3), .ref (B + 4), .int (zI (n : Int)), .int (zI f), .int (zI pl), .int (zI so), .int (zI (z : Int)), .int (zI (z : Int)), .int (zI vv)])))) (up_at0).symm ?_
        refine x_aload_n (pc := 55) 0 K rfl rfl dX8_step_55 ?_
        refine x_get (pc := 56) (C := RX8) (T := TX8) (n := 9) (ci := 7) (idx := 31) (ref := "BorderBeds$Tape") (x := .int (zI (z : Int)))  K (cel_self hc0.1) rfl (by decide +kernel) 6 (by decide) (by decide +kernel) rfl rfl dX8_step_56 ?_
        refine x_aload_n (pc := 59) 0 K rfl rfl dX8_step_59 ?_
        refine x_get (pc := 60) (C := RX8) (T := TX8) (n := 9) (ci := 7) (idx := 18) (ref := "BorderBeds$Tape") (x := .int (zI (n : Int)))  K (cel_self hc0.1) rfl (by decide +kernel) 2 (by decide) (by decide +kernel) rfl rfl dX8_step_60 ?_
        refine x_icmp_lt (pc := 63) (tgt := 74) K (by omega) (by omega) dX8_step_63 (by decide) (fun h_63 => ?_) (fun h_63 => ?_)
        · skip
          exfalso; omega
        · skip
          refine x_aload_n (pc := 66) 0 K rfl rfl dX8_step_66 ?_
          refine x_iconst (pc := 67) K dX8_step_67 ?_
          refine x_put (pc := 68) (C := RX8) (T := TX8) (n := 9) (ci := 7) (idx := 28) (ref := "BorderBeds$Tape") (ty := .int)  K (cel_self hc0.1) rfl (by decide +kernel) tyX8 tyX8_ok nmX8 5 (by decide) (by decide +kernel) rfl rfl (by decide +kernel) rfl rfl (Nat.le_of_ble_eq_true rfl) dX8_step_68 ?_
          refine x_v (w := (va_up v 2 (.inr (7, [.ref (B + 3), .ref (B + 4), .int (zI (n : Int)), .int (zI f), .int (zI pl), .int (zI 0), .int (zI (z : Int)), .int (zI (z : Int)), .int (zI vv)])))) (up_at0).symm ?_
          refine x_goto (pc := 71) (tgt := 151) K dX8_step_71 (by decide) ?_
          refine x_vret (pc := 151) K KR (by omega) (Nat.le_of_ble_eq_true rfl) (Nat.le_of_ble_eq_true rfl) dX8_step_151 ?_
          have hK : tokK t n a = 0 := by unfold tokK; rw [hE, if_neg (by omega)]
          have hEE : tokE t n a = z := by unfold tokE; rw [hE, if_neg (by omega)]
          exact ⟨rfl, vv, (fun q => by omega), rfl, by rw [hK, hEE, hE]⟩
      · skip
        have b27 := hq1 z
        refine x_aload_n (pc := 19) 0 K rfl rfl dX8_step_19 ?_
        refine x_get (pc := 20) (C := RX8) (T := TX8) (n := 9) (ci := 7) (idx := 11) (ref := "BorderBeds$Tape") (x := .ref (B + 3))  K (cel_self hc0.1) rfl (by decide +kernel) 0 (by decide) (by decide +kernel) rfl rfl dX8_step_20 ?_
        refine x_aload_n (pc := 23) 0 K rfl rfl dX8_step_23 ?_
        refine x_get (pc := 24) (C := RX8) (T := TX8) (n := 9) (ci := 7) (idx := 31) (ref := "BorderBeds$Tape") (x := .int (zI (z : Int)))  K (cel_self hc0.1) rfl (by decide +kernel) 6 (by decide) (by decide +kernel) rfl rfl dX8_step_24 ?_
        refine x_iald (pc := 27) z K (cel_ne hc1 (by decide)) rfl (by omega) (by decide) dX8_step_27 ?_
        refine x_callS (pc := 28) (As := [.int (zI (t z))]) K (c_X8_isBlank (E := E) (B := B) (N := N)    (by omega)) gX8_step_X8_isBlank rfl (na := 1) (by decide +kernel) rfl ⟨(Nat.le_of_ble_eq_true rfl), (Nat.le_of_ble_eq_true rfl)⟩ (st := []) rfl (Nat.le_of_ble_eq_true rfl) ⟨(Nat.le_of_ble_eq_true rfl), (Nat.le_of_ble_eq_true rfl)⟩ dX8_step_28 (fun r28 N28 w28 hpo28 hN28 => ?_)
        obtain ⟨rfl, rfl, rfl⟩ := hpo28
        refine x_st (st' := [.int (zI (bI ((t z) = 32 ∨ (t z) = 10)))]) rfl ?_
        have hrg28 := bI_rng ((t z) = 32 ∨ (t z) = 10)
        refine x_if_eq (pc := 31) (tgt := 47) K (by omega) dX8_step_31 (by decide) (fun h_31 => ?_) (fun h_31 => ?_)
        · skip
          have h_31 := bI_t h_31
          have hE : skT t n a = z := by rw [← hi8_1]; exact skT_end (fun q => h_31 q.2)
          refine x_aload_n (pc := 47) 0 K rfl rfl dX8_step_47 ?_
          refine x_aload_n (pc := 48) 0 K rfl rfl dX8_step_48 ?_
          refine x_get (pc := 49) (C := RX8) (T := TX8) (n := 9) (ci := 7) (idx := 31) (ref := "BorderBeds$Tape") (x := .int (zI (z : Int)))  K (cel_self hc0.1) rfl (by decide +kernel) 6 (by decide) (by decide +kernel) rfl rfl dX8_step_49 ?_
          refine x_put (pc := 52) (C := RX8) (T := TX8) (n := 9) (ci := 7) (idx := 34) (ref := "BorderBeds$Tape") (ty := .int)  K (cel_self hc0.1) rfl (by decide +kernel) tyX8 tyX8_ok nmX8 7 (by decide) (by decide +kernel) rfl rfl (by decide +kernel) rfl rfl (Nat.le_of_ble_eq_true rfl) dX8_step_52 ?_
          refine x_v (w := (va_up v 2 (.inr (7, [.ref (B + 3), .ref (B + 4), .int (zI (n : Int)), .int (zI f), .int (zI pl), .int (zI so), .int (zI (z : Int)), .int (zI (z : Int)), .int (zI vv)])))) (up_at0).symm ?_
          refine x_aload_n (pc := 55) 0 K rfl rfl dX8_step_55 ?_
          refine x_get (pc := 56) (C := RX8) (T := TX8) (n := 9) (ci := 7) (idx := 31) (ref := "BorderBeds$Tape") (x := .int (zI (z : Int)))  K (cel_self hc0.1) rfl (by decide +kernel) 6 (by decide) (by decide +kernel) rfl rfl dX8_step_56 ?_
          refine x_aload_n (pc := 59) 0 K rfl rfl dX8_step_59 ?_
          refine x_get (pc := 60) (C := RX8) (T := TX8) (n := 9) (ci := 7) (idx := 18) (ref := "BorderBeds$Tape") (x := .int (zI (n : Int)))  K (cel_self hc0.1) rfl (by decide +kernel) 2 (by decide) (by decide +kernel) rfl rfl dX8_step_60 ?_
          refine x_icmp_lt (pc := 63) (tgt := 74) K (by omega) (by omega) dX8_step_63 (by decide) (fun h_63 => ?_) (fun h_63 => ?_)
          · skip
            refine x_aload_n (pc := 74) 0 K rfl rfl dX8_step_74 ?_
            refine x_get (pc := 75) (C := RX8) (T := TX8) (n := 9) (ci := 7) (idx := 11) (ref := "BorderBeds$Tape") (x := .ref (B + 3))  K (cel_self hc0.1) rfl (by decide +kernel) 0 (by decide) (by decide +kernel) rfl rfl dX8_step_75 ?_
            refine x_aload_n (pc := 78) 0 K rfl rfl dX8_step_78 ?_
            refine x_get (pc := 79) (C := RX8) (T := TX8) (n := 9) (ci := 7) (idx := 31) (ref := "BorderBeds$Tape") (x := .int (zI (z : Int)))  K (cel_self hc0.1) rfl (by decide +kernel) 6 (by decide) (by decide +kernel) rfl rfl dX8_step_79 ?_
            refine x_iald (pc := 82) z K (cel_ne hc1 (by decide)) rfl (by omega) (by decide) dX8_step_82 ?_
            refine x_callS (pc := 83) (As := [.int (zI (t z))]) K (c_X8_isLetter (E := E) (B := B) (N := N)    (by omega)) gX8_step_X8_isLetter rfl (na := 1) (by decide +kernel) rfl ⟨(Nat.le_of_ble_eq_true rfl), (Nat.le_of_ble_eq_true rfl)⟩ (st := []) rfl (Nat.le_of_ble_eq_true rfl) ⟨(Nat.le_of_ble_eq_true rfl), (Nat.le_of_ble_eq_true rfl)⟩ dX8_step_83 (fun r83 N83 w83 hpo83 hN83 => ?_)
            obtain ⟨rfl, rfl, rfl⟩ := hpo83
            refine x_st (st' := [.int (zI (bI (97 ≤ (t z) ∧ (t z) ≤ 122)))]) rfl ?_
            have hrg83 := bI_rng (97 ≤ (t z) ∧ (t z) ≤ 122)
            refine x_if_eq (pc := 86) (tgt := 96) K (by omega) dX8_step_86 (by decide) (fun h_86 => ?_) (fun h_86 => ?_)
            · skip
              have h_86 := bI_t h_86
              refine x_aload_n (pc := 96) 0 K rfl rfl dX8_step_96 ?_
              refine x_get (pc := 97) (C := RX8) (T := TX8) (n := 9) (ci := 7) (idx := 11) (ref := "BorderBeds$Tape") (x := .ref (B + 3))  K (cel_self hc0.1) rfl (by decide +kernel) 0 (by decide) (by decide +kernel) rfl rfl dX8_step_97 ?_
              refine x_aload_n (pc := 100) 0 K rfl rfl dX8_step_100 ?_
              refine x_get (pc := 101) (C := RX8) (T := TX8) (n := 9) (ci := 7) (idx := 31) (ref := "BorderBeds$Tape") (x := .int (zI (z : Int)))  K (cel_self hc0.1) rfl (by decide +kernel) 6 (by decide) (by decide +kernel) rfl rfl dX8_step_101 ?_
              refine x_iald (pc := 104) z K (cel_ne hc1 (by decide)) rfl (by omega) (by decide) dX8_step_104 ?_
              refine x_callS (pc := 105) (As := [.int (zI (t z))]) K (c_X8_isFigure (E := E) (B := B) (N := N)    (by omega)) gX8_step_X8_isFigure rfl (na := 1) (by decide +kernel) rfl ⟨(Nat.le_of_ble_eq_true rfl), (Nat.le_of_ble_eq_true rfl)⟩ (st := []) rfl (Nat.le_of_ble_eq_true rfl) ⟨(Nat.le_of_ble_eq_true rfl), (Nat.le_of_ble_eq_true rfl)⟩ dX8_step_105 (fun r105 N105 w105 hpo105 hN105 => ?_)
              obtain ⟨rfl, rfl, rfl⟩ := hpo105
              refine x_st (st' := [.int (zI (bI (48 ≤ (t z) ∧ (t z) ≤ 57)))]) rfl ?_
              have hrg105 := bI_rng (48 ≤ (t z) ∧ (t z) ≤ 57)
              refine x_if_eq (pc := 108) (tgt := 118) K (by omega) dX8_step_108 (by decide) (fun h_108 => ?_) (fun h_108 => ?_)
              · skip
                have h_108 := bI_t h_108
                refine x_aload_n (pc := 118) 0 K rfl rfl dX8_step_118 ?_
                refine x_aload_n (pc := 119) 0 K rfl rfl dX8_step_119 ?_
                refine x_get (pc := 120) (C := RX8) (T := TX8) (n := 9) (ci := 7) (idx := 11) (ref := "BorderBeds$Tape") (x := .ref (B + 3))  K (cel_self hc0.1) rfl (by decide +kernel) 0 (by decide) (by decide +kernel) rfl rfl dX8_step_120 ?_
                refine x_aload_n (pc := 123) 0 K rfl rfl dX8_step_123 ?_
                refine x_get (pc := 124) (C := RX8) (T := TX8) (n := 9) (ci := 7) (idx := 31) (ref := "BorderBeds$Tape") (x := .int (zI (z : Int)))  K (cel_self hc0.1) rfl (by decide +kernel) 6 (by decide) (by decide +kernel) rfl rfl dX8_step_124 ?_
                refine x_iald (pc := 127) z K (cel_ne hc1 (by decide)) rfl (by omega) (by decide) dX8_step_127 ?_
                refine x_bipush (pc := 128) K (by decide) dX8_step_128 ?_
                refine x_icmp_ne (pc := 130) (tgt := 137) K (by omega) (by decide) dX8_step_130 (by decide) (fun h_130 => ?_) (fun h_130 => ?_)
                · skip
                  have hsr : srt (t z) = 4 := by unfold srt; rw [if_neg h_86, if_neg h_108, if_neg h_130]
                  refine x_iconst (pc := 137) K dX8_step_137 ?_
                  refine x_put (pc := 138) (C := RX8) (T := TX8) (n := 9) (ci := 7) (idx := 28) (ref := "BorderBeds$Tape") (ty := .int)  K (cel_self hc0.1) rfl (by decide +kernel) tyX8 tyX8_ok nmX8 5 (by decide) (by decide +kernel) rfl rfl (by decide +kernel) rfl rfl (Nat.le_of_ble_eq_true rfl) dX8_step_138 ?_
                  refine x_v (w := (va_up v 2 (.inr (7, [.ref (B + 3), .ref (B + 4), .int (zI (n : Int)), .int (zI f), .int (zI pl), .int (zI 4), .int (zI (z : Int)), .int (zI (z : Int)), .int (zI vv)])))) (up_at0).symm ?_
                  refine x_aload_n (pc := 141) 0 K rfl rfl dX8_step_141 ?_
                  refine x_aload_n (pc := 142) 0 K rfl rfl dX8_step_142 ?_
                  refine x_get (pc := 143) (C := RX8) (T := TX8) (n := 9) (ci := 7) (idx := 31) (ref := "BorderBeds$Tape") (x := .int (zI (z : Int)))  K (cel_self hc0.1) rfl (by decide +kernel) 6 (by decide) (by decide +kernel) rfl rfl dX8_step_143 ?_
                  refine x_iconst (pc := 146) K dX8_step_146 ?_
                  refine x_iadd (pc := 147) K dX8_step_147 ?_
                  refine x_put (pc := 148) (C := RX8) (T := TX8) (n := 9) (ci := 7) (idx := 34) (ref := "BorderBeds$Tape") (ty := .int)  K (cel_self hc0.1) rfl (by decide +kernel) tyX8 tyX8_ok nmX8 7 (by decide) (by decide +kernel) rfl rfl (by decide +kernel) rfl rfl (Nat.le_of_ble_eq_true rfl) dX8_step_148 ?_
                  refine x_v (w := (va_up v 2 (.inr (7, [.ref (B + 3), .ref (B + 4), .int (zI (n : Int)), .int (zI f), .int (zI pl), .int (zI 4), .int (zI (z : Int)), .int (zI ((z : Int) + 1)), .int (zI vv)])))) (up_at0).symm ?_
                  refine x_vret (pc := 151) K KR (by omega) (Nat.le_of_ble_eq_true rfl) (Nat.le_of_ble_eq_true rfl) dX8_step_151 ?_
                  have hK : tokK t n a = 4 := by unfold tokK; rw [hE, if_pos (by omega), hsr]; first | rfl | (split <;> first | rfl | (split <;> omega) | omega)
                  have hEE : tokE t n a = (z + 1) := by unfold tokE; rw [hE, if_pos (by omega), hsr]; first | rfl | (rw [if_pos (by omega)]) | (rw [if_neg (by omega)])
                  have hEi : ((tokE t n a : Nat) : Int) = ((z : Int) + 1) := by (rw [hEE]) <;> (first | rfl | omega)
                  exact ⟨rfl, vv, (fun q => by omega), rfl, by rw [hK, hEi, hE]⟩
                · skip
                  have hsr : srt (t z) = 3 := by unfold srt; rw [if_neg h_86, if_neg h_108, if_pos h_130]
                  refine x_iconst (pc := 133) K dX8_step_133 ?_
                  refine x_goto (pc := 134) (tgt := 138) K dX8_step_134 (by decide) ?_
                  refine x_put (pc := 138) (C := RX8) (T := TX8) (n := 9) (ci := 7) (idx := 28) (ref := "BorderBeds$Tape") (ty := .int)  K (cel_self hc0.1) rfl (by decide +kernel) tyX8 tyX8_ok nmX8 5 (by decide) (by decide +kernel) rfl rfl (by decide +kernel) rfl rfl (Nat.le_of_ble_eq_true rfl) dX8_step_138 ?_
                  refine x_v (w := (va_up v 2 (.inr (7, [.ref (B + 3), .ref (B + 4), .int (zI (n : Int)), .int (zI f), .int (zI pl), .int (zI 3), .int (zI (z : Int)), .int (zI (z : Int)), .int (zI vv)])))) (up_at0).symm ?_
                  refine x_aload_n (pc := 141) 0 K rfl rfl dX8_step_141 ?_
                  refine x_aload_n (pc := 142) 0 K rfl rfl dX8_step_142 ?_
                  refine x_get (pc := 143) (C := RX8) (T := TX8) (n := 9) (ci := 7) (idx := 31) (ref := "BorderBeds$Tape") (x := .int (zI (z : Int)))  K (cel_self hc0.1) rfl (by decide +kernel) 6 (by decide) (by decide +kernel) rfl rfl dX8_step_143 ?_
                  refine x_iconst (pc := 146) K dX8_step_146 ?_
                  refine x_iadd (pc := 147) K dX8_step_147 ?_
                  refine x_put (pc := 148) (C := RX8) (T := TX8) (n := 9) (ci := 7) (idx := 34) (ref := "BorderBeds$Tape") (ty := .int)  K (cel_self hc0.1) rfl (by decide +kernel) tyX8 tyX8_ok nmX8 7 (by decide) (by decide +kernel) rfl rfl (by decide +kernel) rfl rfl (Nat.le_of_ble_eq_true rfl) dX8_step_148 ?_
                  refine x_v (w := (va_up v 2 (.inr (7, [.ref (B + 3), .ref (B + 4), .int (zI (n : Int)), .int (zI f), .int (zI pl), .int (zI 3), .int (zI (z : Int)), .int (zI ((z : Int) + 1)), .int (zI vv)])))) (up_at0).symm ?_
                  refine x_vret (pc := 151) K KR (by omega) (Nat.le_of_ble_eq_true rfl) (Nat.le_of_ble_eq_true rfl) dX8_step_151 ?_
                  have hK : tokK t n a = 3 := by unfold tokK; rw [hE, if_pos (by omega), hsr]; first | rfl | (split <;> first | rfl | (split <;> omega) | omega)
                  have hEE : tokE t n a = (z + 1) := by unfold tokE; rw [hE, if_pos (by omega), hsr]; first | rfl | (rw [if_pos (by omega)]) | (rw [if_neg (by omega)])
                  have hEi : ((tokE t n a : Nat) : Int) = ((z : Int) + 1) := by (rw [hEE]) <;> (first | rfl | omega)
                  exact ⟨rfl, vv, (fun q => by omega), rfl, by rw [hK, hEi, hE]⟩
              · skip
                have h_108 := bI_f h_108
                have hsr : srt (t z) = 2 := by unfold srt; rw [if_neg h_86, if_pos h_108]
                refine x_aload_n (pc := 111) 0 K rfl rfl dX8_step_111 ?_
                refine x_callV (pc := 112) (C := RX8) (T := TX8) (n := 9) (ci := 7) (As := []) K (c_X8_stepOverNumber (E := E) (B := B) (N := N) (b := z) (n := n)  (cel_self hc0.1) (cel_ne hc1 (by decide)) (by omega) hq1) gX8_step_X8_stepOverNumber rfl (na := 0) (by decide +kernel) rfl ⟨(Nat.le_of_ble_eq_true rfl), (Nat.le_of_ble_eq_true rfl)⟩ (cel_self hc0.1) rfl (st := []) rfl (Nat.le_of_ble_eq_true rfl) ⟨(Nat.le_of_ble_eq_true rfl), (Nat.le_of_ble_eq_true rfl)⟩ dX8_step_112 (fun r112 N112 w112 hpo112 hN112 => ?_)
                obtain ⟨rfl, rfl, rfl⟩ := hpo112
                refine x_v (w := (va_up v 2 (.inr (7, [.ref (B + 3), .ref (B + 4), .int (zI (n : Int)), .int (zI f), .int (zI pl), .int (zI (if 3 < reT t n 2 z - z then 4 else 2)), .int (zI (z : Int)), .int (zI (((reT t n 2 z) : Nat) : Int)), .int (zI (valN t z (reT t n 2 z - z)))])))) (up_at0).symm ?_
                refine x_st (st' := []) rfl ?_
                refine x_goto (pc := 115) (tgt := 151) K dX8_step_115 (by decide) ?_
                refine x_vret (pc := 151) K KR (by omega) (Nat.le_of_ble_eq_true rfl) (Nat.le_of_ble_eq_true rfl) dX8_step_151 ?_
                have hK : tokK t n a = (if 3 < reT t n 2 z - z then 4 else 2) := by unfold tokK; rw [hE, if_pos (by omega), hsr]; first | rfl | (split <;> first | rfl | (split <;> omega) | omega)
                have hEE : tokE t n a = (reT t n 2 z) := by unfold tokE; rw [hE, if_pos (by omega), hsr]; first | rfl | (rw [if_pos (by omega)]) | (rw [if_neg (by omega)])
                have hEi : ((tokE t n a : Nat) : Int) = (((reT t n 2 z) : Nat) : Int) := by (rw [hEE]) <;> (first | rfl | omega)
                exact ⟨rfl, (valN t z (reT t n 2 z - z)), (fun q => (by have hv := (tokV_num hq0.1 q).2.2.2.2.1; rw [hE] at hv; exact hv.symm)), rfl, by rw [hK, hEi, hE]⟩
            · skip
              have h_86 := bI_f h_86
              have hsr : srt (t z) = 1 := by unfold srt; rw [if_pos h_86]
              refine x_aload_n (pc := 89) 0 K rfl rfl dX8_step_89 ?_
              refine x_callV (pc := 90) (C := RX8) (T := TX8) (n := 9) (ci := 7) (As := []) K (c_X8_stepOverName (E := E) (B := B) (N := N) (b := z) (n := n)  (cel_self hc0.1) (cel_ne hc1 (by decide)) (by omega) hq1) gX8_step_X8_stepOverName rfl (na := 0) (by decide +kernel) rfl ⟨(Nat.le_of_ble_eq_true rfl), (Nat.le_of_ble_eq_true rfl)⟩ (cel_self hc0.1) rfl (st := []) rfl (Nat.le_of_ble_eq_true rfl) ⟨(Nat.le_of_ble_eq_true rfl), (Nat.le_of_ble_eq_true rfl)⟩ dX8_step_90 (fun r90 N90 w90 hpo90 hN90 => ?_)
              obtain ⟨rfl, rfl, rfl⟩ := hpo90
              refine x_v (w := (va_up v 2 (.inr (7, [.ref (B + 3), .ref (B + 4), .int (zI (n : Int)), .int (zI f), .int (zI pl), .int (zI 1), .int (zI (z : Int)), .int (zI (((reT t n 1 z) : Nat) : Int)), .int (zI vv)])))) (up_at0).symm ?_
              refine x_st (st' := []) rfl ?_
              refine x_goto (pc := 93) (tgt := 151) K dX8_step_93 (by decide) ?_
              refine x_vret (pc := 151) K KR (by omega) (Nat.le_of_ble_eq_true rfl) (Nat.le_of_ble_eq_true rfl) dX8_step_151 ?_
              have hK : tokK t n a = 1 := by unfold tokK; rw [hE, if_pos (by omega), hsr]; first | rfl | (split <;> first | rfl | (split <;> omega) | omega)
              have hEE : tokE t n a = (reT t n 1 z) := by unfold tokE; rw [hE, if_pos (by omega), hsr]; first | rfl | (rw [if_pos (by omega)]) | (rw [if_neg (by omega)])
              have hEi : ((tokE t n a : Nat) : Int) = (((reT t n 1 z) : Nat) : Int) := by (rw [hEE]) <;> (first | rfl | omega)
              exact ⟨rfl, vv, (fun q => by omega), rfl, by rw [hK, hEi, hE]⟩
          · skip
            exfalso; omega
        · skip
          have h_31 := bI_f h_31
          refine x_aload_n (pc := 34) 0 K rfl rfl dX8_step_34 ?_
          refine x_dup (pc := 35) K rfl dX8_step_35 ?_
          refine x_get (pc := 36) (C := RX8) (T := TX8) (n := 9) (ci := 7) (idx := 31) (ref := "BorderBeds$Tape") (x := .int (zI (z : Int)))  K (cel_self hc0.1) rfl (by decide +kernel) 6 (by decide) (by decide +kernel) rfl rfl dX8_step_36 ?_
          refine x_iconst (pc := 39) K dX8_step_39 ?_
          refine x_iadd (pc := 40) K dX8_step_40 ?_
          refine x_put (pc := 41) (C := RX8) (T := TX8) (n := 9) (ci := 7) (idx := 31) (ref := "BorderBeds$Tape") (ty := .int)  K (cel_self hc0.1) rfl (by decide +kernel) tyX8 tyX8_ok nmX8 6 (by decide) (by decide +kernel) rfl rfl (by decide +kernel) rfl rfl (Nat.le_of_ble_eq_true rfl) dX8_step_41 ?_
          refine x_v (w := (va_up v 2 (.inr (7, [.ref (B + 3), .ref (B + 4), .int (zI (n : Int)), .int (zI f), .int (zI pl), .int (zI so), .int (zI ((z : Int) + 1)), .int (zI (a : Int)), .int (zI vv)])))) (up_at0).symm ?_
          refine x_goto (pc := 44) (tgt := 8) K dX8_step_44 (by decide) ?_
          exact ih8 (z + 1) (by omega) (by rw [← hi8_1]; exact skT_go (by omega) h_31) (by omega)
  exact LOOP8 (_) a (by omega) (by rfl) (Nat.lt_succ_self _)
