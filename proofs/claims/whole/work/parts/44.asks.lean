theorem dX6_size_0 : decode cX6_size 0 = .ok (.aload_n 1, 1) := by decide +kernel
theorem dX6_size_1 : decode cX6_size 1 = .ok (.bipush 10, 2) := by decide +kernel
set_option maxRecDepth 20000 in
theorem ggX6_size_X9_leave : GoodIn wsX6_size wsX9_leave := goodIn_r _ [6, 7, 8, 29, 30] (by decide +kernel) (by decide +kernel)
set_option maxRecDepth 20000 in
theorem gX6_size_X9_leave : GoodIn wsX6_size (wsV RX6 22 RX9 yX9_leave wsX9_leave) := goodIn_app (goodIn_of _ (by decide +kernel)) ggX6_size_X9_leave
theorem dX6_size_3 : decode cX6_size 3 = .ok (.invokevirtual 22, 3) := by decide +kernel
theorem dX6_size_6 : decode cX6_size 6 = .ok (.aload_n 0, 1) := by decide +kernel
theorem dX6_size_7 : decode cX6_size 7 = .ok (.getfield 19, 3) := by decide +kernel
theorem dX6_size_10 : decode cX6_size 10 = .ok (.ireturn, 1) := by decide +kernel
theorem dX6_mark_0 : decode cX6_mark 0 = .ok (.aload_n 1, 1) := by decide +kernel
theorem dX6_mark_1 : decode cX6_mark 1 = .ok (.bipush 20, 2) := by decide +kernel
set_option maxRecDepth 20000 in
theorem ggX6_mark_X9_leave : GoodIn wsX6_mark wsX9_leave := goodIn_r _ [6, 7, 8, 29, 30] (by decide +kernel) (by decide +kernel)
set_option maxRecDepth 20000 in
theorem gX6_mark_X9_leave : GoodIn wsX6_mark (wsV RX6 22 RX9 yX9_leave wsX9_leave) := goodIn_app (goodIn_of _ (by decide +kernel)) ggX6_mark_X9_leave
theorem dX6_mark_3 : decode cX6_mark 3 = .ok (.invokevirtual 22, 3) := by decide +kernel
theorem dX6_mark_6 : decode cX6_mark 6 = .ok (.aload_n 0, 1) := by decide +kernel
theorem dX6_mark_7 : decode cX6_mark 7 = .ok (.getfield 7, 3) := by decide +kernel
theorem dX6_mark_10 : decode cX6_mark 10 = .ok (.ireturn, 1) := by decide +kernel
theorem dX0_mark_0 : decode cX0_mark 0 = .ok (.aload_n 1, 1) := by decide +kernel
theorem dX0_mark_1 : decode cX0_mark 1 = .ok (.bipush 21, 2) := by decide +kernel
set_option maxRecDepth 20000 in
theorem ggX0_mark_X9_leave : GoodIn wsX0_mark wsX9_leave := goodIn_r _ [7, 8, 9, 38, 39] (by decide +kernel) (by decide +kernel)
set_option maxRecDepth 20000 in
theorem gX0_mark_X9_leave : GoodIn wsX0_mark (wsV RX0 9 RX9 yX9_leave wsX9_leave) := goodIn_app (goodIn_of _ (by decide +kernel)) ggX0_mark_X9_leave
theorem dX0_mark_3 : decode cX0_mark 3 = .ok (.invokevirtual 9, 3) := by decide +kernel
theorem dX0_mark_6 : decode cX0_mark 6 = .ok (.aload_n 0, 1) := by decide +kernel
theorem dX0_mark_7 : decode cX0_mark 7 = .ok (.aload_n 1, 1) := by decide +kernel
set_option maxRecDepth 20000 in
theorem ggX0_mark_X6_mark : GoodIn wsX0_mark wsX6_mark := goodIn_r _ [15, 16, 17, 4, 5, 6, 7, 8, 9, 18, 19, 20, 21, 22, 23, 24, 25, 26, 27, 28, 29, 30, 31, 32, 33, 34, 35, 36, 37, 38, 39] (by decide +kernel) (by decide +kernel)
set_option maxRecDepth 20000 in
theorem gX0_mark_X6_mark_s22 : GoodIn wsX0_mark (va_wsSU RX0 22 yX6_mark wsX6_mark) := goodIn_app (goodIn_of _ (by decide +kernel)) ggX0_mark_X6_mark
theorem dX0_mark_8 : decode cX0_mark 8 = .ok (.invokespecial 22, 3) := by decide +kernel
theorem dX0_mark_11 : decode cX0_mark 11 = .ok (.aload_n 0, 1) := by decide +kernel
theorem dX0_mark_12 : decode cX0_mark 12 = .ok (.getfield 23, 3) := by decide +kernel
theorem dX0_mark_15 : decode cX0_mark 15 = .ok (.iadd, 1) := by decide +kernel
theorem dX0_mark_16 : decode cX0_mark 16 = .ok (.ireturn, 1) := by decide +kernel
theorem dX2_mark_0 : decode cX2_mark 0 = .ok (.aload_n 1, 1) := by decide +kernel
theorem dX2_mark_1 : decode cX2_mark 1 = .ok (.bipush 24, 2) := by decide +kernel
set_option maxRecDepth 20000 in
theorem ggX2_mark_X9_leave : GoodIn wsX2_mark wsX9_leave := goodIn_r _ [5, 6, 7, 25, 26] (by decide +kernel) (by decide +kernel)
set_option maxRecDepth 20000 in
theorem gX2_mark_X9_leave : GoodIn wsX2_mark (wsV RX2 13 RX9 yX9_leave wsX9_leave) := goodIn_app (goodIn_of _ (by decide +kernel)) ggX2_mark_X9_leave
theorem dX2_mark_3 : decode cX2_mark 3 = .ok (.invokevirtual 13, 3) := by decide +kernel
theorem dX2_mark_6 : decode cX2_mark 6 = .ok (.iconst 2, 1) := by decide +kernel
theorem dX2_mark_7 : decode cX2_mark 7 = .ok (.aload_n 0, 1) := by decide +kernel
theorem dX2_mark_8 : decode cX2_mark 8 = .ok (.aload_n 1, 1) := by decide +kernel
set_option maxRecDepth 20000 in
theorem ggX2_mark_X0_mark : GoodIn wsX2_mark wsX0_mark := goodIn_r _ [13, 14, 15, 16, 2, 3, 4, 5, 6, 7, 17, 18, 19, 20, 21, 22, 23, 24, 27, 28, 29, 30, 31, 32, 33, 34, 35, 36, 37, 38, 39, 40, 41, 42, 43, 44, 45, 46, 25, 26] (by decide +kernel) (by decide +kernel)
set_option maxRecDepth 20000 in
theorem gX2_mark_X0_mark_s23 : GoodIn wsX2_mark (va_wsSU RX2 23 yX0_mark wsX0_mark) := goodIn_app (goodIn_of _ (by decide +kernel)) ggX2_mark_X0_mark
theorem dX2_mark_9 : decode cX2_mark 9 = .ok (.invokespecial 23, 3) := by decide +kernel
theorem dX2_mark_12 : decode cX2_mark 12 = .ok (.imul, 1) := by decide +kernel
theorem dX2_mark_13 : decode cX2_mark 13 = .ok (.ireturn, 1) := by decide +kernel
theorem dX10_mark_0 : decode cX10_mark 0 = .ok (.aload_n 1, 1) := by decide +kernel
theorem dX10_mark_1 : decode cX10_mark 1 = .ok (.bipush 22, 2) := by decide +kernel
set_option maxRecDepth 20000 in
theorem ggX10_mark_X9_leave : GoodIn wsX10_mark wsX9_leave := goodIn_r _ [5, 6, 7, 25, 26] (by decide +kernel) (by decide +kernel)
set_option maxRecDepth 20000 in
theorem gX10_mark_X9_leave : GoodIn wsX10_mark (wsV RX10 9 RX9 yX9_leave wsX9_leave) := goodIn_app (goodIn_of _ (by decide +kernel)) ggX10_mark_X9_leave
theorem dX10_mark_3 : decode cX10_mark 3 = .ok (.invokevirtual 9, 3) := by decide +kernel
theorem dX10_mark_6 : decode cX10_mark 6 = .ok (.aload_n 0, 1) := by decide +kernel
theorem dX10_mark_7 : decode cX10_mark 7 = .ok (.aload_n 1, 1) := by decide +kernel
set_option maxRecDepth 20000 in
theorem ggX10_mark_X0_mark : GoodIn wsX10_mark wsX0_mark := goodIn_r _ [13, 14, 15, 16, 2, 3, 4, 5, 6, 7, 17, 18, 19, 20, 21, 22, 23, 24, 27, 28, 29, 30, 31, 32, 33, 34, 35, 36, 37, 38, 39, 40, 41, 42, 43, 44, 45, 46, 25, 26] (by decide +kernel) (by decide +kernel)
set_option maxRecDepth 20000 in
theorem gX10_mark_X0_mark_s15 : GoodIn wsX10_mark (va_wsSU RX10 15 yX0_mark wsX0_mark) := goodIn_app (goodIn_of _ (by decide +kernel)) ggX10_mark_X0_mark
theorem dX10_mark_8 : decode cX10_mark 8 = .ok (.invokespecial 15, 3) := by decide +kernel
theorem dX10_mark_11 : decode cX10_mark 11 = .ok (.sipush 1000, 3) := by decide +kernel
theorem dX10_mark_14 : decode cX10_mark 14 = .ok (.isub, 1) := by decide +kernel
theorem dX10_mark_15 : decode cX10_mark 15 = .ok (.ireturn, 1) := by decide +kernel
theorem dX0_size_0 : decode cX0_size 0 = .ok (.aload_n 1, 1) := by decide +kernel
theorem dX0_size_1 : decode cX0_size 1 = .ok (.bipush 11, 2) := by decide +kernel
set_option maxRecDepth 20000 in
theorem ggX0_size_X9_leave : GoodIn wsX0_size wsX9_leave := goodIn_r _ [5, 6, 7, 45, 46] (by decide +kernel) (by decide +kernel)
set_option maxRecDepth 20000 in
theorem gX0_size_X9_leave : GoodIn wsX0_size (wsV RX0 9 RX9 yX9_leave wsX9_leave) := goodIn_app (goodIn_of _ (by decide +kernel)) ggX0_size_X9_leave
theorem dX0_size_3 : decode cX0_size 3 = .ok (.invokevirtual 9, 3) := by decide +kernel
theorem dX0_size_6 : decode cX0_size 6 = .ok (.aload_n 0, 1) := by decide +kernel
theorem dX0_size_7 : decode cX0_size 7 = .ok (.aload_n 1, 1) := by decide +kernel
set_option maxRecDepth 20000 in
theorem ggX0_size_X6_size : GoodIn wsX0_size wsX6_size := goodIn_r _ [13, 14, 15, 2, 3, 4, 5, 6, 7, 47, 48, 49, 50, 51, 52, 53, 54, 55, 56, 57, 58, 59, 60, 61, 62, 63, 64, 65, 66, 45, 46] (by decide +kernel) (by decide +kernel)
set_option maxRecDepth 20000 in
theorem gX0_size_X6_size_s15 : GoodIn wsX0_size (va_wsSU RX0 15 yX6_size wsX6_size) := goodIn_app (goodIn_of _ (by decide +kernel)) ggX0_size_X6_size
theorem dX0_size_8 : decode cX0_size 8 = .ok (.invokespecial 15, 3) := by decide +kernel
theorem dX0_size_11 : decode cX0_size 11 = .ok (.istore_n 2, 1) := by decide +kernel
theorem dX0_size_12 : decode cX0_size 12 = .ok (.iload_n 2, 1) := by decide +kernel
theorem dX0_size_13 : decode cX0_size 13 = .ok (.aload_n 0, 1) := by decide +kernel
theorem dX0_size_14 : decode cX0_size 14 = .ok (.aload_n 1, 1) := by decide +kernel
set_option maxRecDepth 20000 in
theorem ggX0_size_X0_mark : GoodIn wsX0_size wsX0_mark := goodIn_r _ [20, 21, 22, 1, 2, 3, 4, 5, 6, 7, 23, 24, 10, 25, 12, 26, 27, 15, 47, 48, 49, 50, 51, 52, 53, 54, 55, 56, 57, 58, 59, 60, 61, 62, 63, 64, 65, 66, 45, 46] (by decide +kernel) (by decide +kernel)
set_option maxRecDepth 20000 in
theorem gX0_size_X0_mark : GoodIn wsX0_size (wsV RX0 19 RX0 yX0_mark wsX0_mark) := goodIn_app (goodIn_of _ (by decide +kernel)) ggX0_size_X0_mark
theorem dX0_size_15 : decode cX0_size 15 = .ok (.invokevirtual 19, 3) := by decide +kernel
theorem dX0_size_18 : decode cX0_size 18 = .ok (.iadd, 1) := by decide +kernel
theorem dX0_size_19 : decode cX0_size 19 = .ok (.ireturn, 1) := by decide +kernel
set_option maxRecDepth 20000 in
theorem ggX0_size_X2_mark : GoodIn wsX0_size wsX2_mark := goodIn_r _ [34, 35, 2, 3, 4, 5, 6, 7, 36, 29, 37, 17, 19, 20, 21, 22, 1, 23, 24, 10, 25, 12, 26, 27, 15, 45, 46, 47, 48, 49, 50, 51, 52, 53, 54, 55, 56, 57, 58, 59, 60, 61, 62, 63, 64, 65, 66] (by decide +kernel) (by decide +kernel)
set_option maxRecDepth 20000 in
theorem gX0_size_X2_mark_u19X2 : GoodIn wsX0_size (va_wsO RX0 19 RX2 "BorderBeds$Aunt" ⟨"BorderBeds$Aunt", "mark", "(LBorderBeds$Trace;)I"⟩ yX2_mark wsX2_mark) := goodIn_app (goodIn_of _ (by decide +kernel)) ggX0_size_X2_mark
set_option maxRecDepth 20000 in
theorem ggX0_size_X10_mark : GoodIn wsX0_size wsX10_mark := goodIn_r _ [41, 42, 2, 3, 4, 5, 6, 7, 43, 29, 44, 17, 19, 20, 21, 22, 1, 23, 24, 10, 25, 12, 26, 27, 15, 45, 46, 47, 48, 49, 50, 51, 52, 53, 54, 55, 56, 57, 58, 59, 60, 61, 62, 63, 64, 65, 66] (by decide +kernel) (by decide +kernel)
set_option maxRecDepth 20000 in
theorem gX0_size_X10_mark_u19X10 : GoodIn wsX0_size (va_wsO RX0 19 RX10 "BorderBeds$Aunt" ⟨"BorderBeds$Aunt", "mark", "(LBorderBeds$Trace;)I"⟩ yX10_mark wsX10_mark) := goodIn_app (goodIn_of _ (by decide +kernel)) ggX0_size_X10_mark
theorem dX2_size_0 : decode cX2_size 0 = .ok (.aload_n 1, 1) := by decide +kernel
theorem dX2_size_1 : decode cX2_size 1 = .ok (.bipush 12, 2) := by decide +kernel
set_option maxRecDepth 20000 in
theorem ggX2_size_X9_leave : GoodIn wsX2_size wsX9_leave := goodIn_r _ [5, 6, 7, 49, 50] (by decide +kernel) (by decide +kernel)
set_option maxRecDepth 20000 in
theorem gX2_size_X9_leave : GoodIn wsX2_size (wsV RX2 13 RX9 yX9_leave wsX9_leave) := goodIn_app (goodIn_of _ (by decide +kernel)) ggX2_size_X9_leave
theorem dX2_size_3 : decode cX2_size 3 = .ok (.invokevirtual 13, 3) := by decide +kernel
theorem dX2_size_6 : decode cX2_size 6 = .ok (.iconst 0, 1) := by decide +kernel
theorem dX2_size_7 : decode cX2_size 7 = .ok (.aload_n 0, 1) := by decide +kernel
theorem dX2_size_8 : decode cX2_size 8 = .ok (.aload_n 1, 1) := by decide +kernel
set_option maxRecDepth 20000 in
theorem ggX2_size_X0_size : GoodIn wsX2_size wsX0_size := goodIn_r _ [13, 14, 2, 3, 4, 5, 6, 7, 15, 16, 17, 18, 19, 20, 21, 22, 23, 24, 25, 12, 26, 27, 28, 29, 30, 31, 32, 33, 34, 35, 36, 37, 38, 39, 40, 1, 41, 10, 42, 43, 44, 45, 46, 47, 48, 49, 50, 51, 52, 53, 54, 55, 56, 57, 58, 59, 60, 61, 62, 63, 64, 65, 66, 67, 68, 69, 70] (by decide +kernel) (by decide +kernel)
set_option maxRecDepth 20000 in
theorem gX2_size_X0_size_s19 : GoodIn wsX2_size (va_wsSU RX2 19 yX0_size wsX0_size) := goodIn_app (goodIn_of _ (by decide +kernel)) ggX2_size_X0_size
theorem dX2_size_9 : decode cX2_size 9 = .ok (.invokespecial 19, 3) := by decide +kernel
theorem dX2_size_12 : decode cX2_size 12 = .ok (.isub, 1) := by decide +kernel
theorem dX2_size_13 : decode cX2_size 13 = .ok (.ireturn, 1) := by decide +kernel
theorem dX1_size_0 : decode cX1_size 0 = .ok (.aload_n 1, 1) := by decide +kernel
theorem dX1_size_1 : decode cX1_size 1 = .ok (.bipush 13, 2) := by decide +kernel
set_option maxRecDepth 20000 in
theorem ggX1_size_X9_leave : GoodIn wsX1_size wsX9_leave := goodIn_r _ [5, 6, 7, 16, 17] (by decide +kernel) (by decide +kernel)
set_option maxRecDepth 20000 in
theorem gX1_size_X9_leave : GoodIn wsX1_size (wsV RX1 9 RX9 yX9_leave wsX9_leave) := goodIn_app (goodIn_of _ (by decide +kernel)) ggX1_size_X9_leave
theorem dX1_size_3 : decode cX1_size 3 = .ok (.invokevirtual 9, 3) := by decide +kernel
theorem dX1_size_6 : decode cX1_size 6 = .ok (.aload_n 0, 1) := by decide +kernel
theorem dX1_size_7 : decode cX1_size 7 = .ok (.aload_n 1, 1) := by decide +kernel
set_option maxRecDepth 20000 in
theorem ggX1_size_X6_size : GoodIn wsX1_size wsX6_size := goodIn_r _ [13, 14, 15, 2, 3, 4, 5, 6, 7, 18, 19, 20, 21, 22, 23, 24, 25, 26, 27, 28, 29, 30, 31, 32, 33, 34, 35, 36, 37, 16, 17] (by decide +kernel) (by decide +kernel)
set_option maxRecDepth 20000 in
theorem gX1_size_X6_size_s15 : GoodIn wsX1_size (va_wsSU RX1 15 yX6_size wsX6_size) := goodIn_app (goodIn_of _ (by decide +kernel)) ggX1_size_X6_size
theorem dX1_size_8 : decode cX1_size 8 = .ok (.invokespecial 15, 3) := by decide +kernel
theorem dX1_size_11 : decode cX1_size 11 = .ok (.bipush 100, 2) := by decide +kernel
theorem dX1_size_13 : decode cX1_size 13 = .ok (.isub, 1) := by decide +kernel
theorem dX1_size_14 : decode cX1_size 14 = .ok (.ireturn, 1) := by decide +kernel
theorem dX5_size_0 : decode cX5_size 0 = .ok (.aload_n 1, 1) := by decide +kernel
theorem dX5_size_1 : decode cX5_size 1 = .ok (.bipush 14, 2) := by decide +kernel
set_option maxRecDepth 20000 in
theorem ggX5_size_X9_leave : GoodIn wsX5_size wsX9_leave := goodIn_r _ [5, 6, 7, 23, 24] (by decide +kernel) (by decide +kernel)
set_option maxRecDepth 20000 in
theorem gX5_size_X9_leave : GoodIn wsX5_size (wsV RX5 9 RX9 yX9_leave wsX9_leave) := goodIn_app (goodIn_of _ (by decide +kernel)) ggX5_size_X9_leave
theorem dX5_size_3 : decode cX5_size 3 = .ok (.invokevirtual 9, 3) := by decide +kernel
theorem dX5_size_6 : decode cX5_size 6 = .ok (.iconst 2, 1) := by decide +kernel
theorem dX5_size_7 : decode cX5_size 7 = .ok (.aload_n 0, 1) := by decide +kernel
theorem dX5_size_8 : decode cX5_size 8 = .ok (.aload_n 1, 1) := by decide +kernel
set_option maxRecDepth 20000 in
theorem ggX5_size_X1_size : GoodIn wsX5_size wsX1_size := goodIn_r _ [13, 14, 2, 3, 4, 5, 6, 7, 15, 16, 17, 18, 19, 20, 21, 22, 23, 24, 25, 26, 27, 28, 29, 30, 31, 32, 33, 34, 35, 36, 37, 38, 39, 40, 41, 42, 43, 44] (by decide +kernel) (by decide +kernel)
set_option maxRecDepth 20000 in
theorem gX5_size_X1_size_s15 : GoodIn wsX5_size (va_wsSU RX5 15 yX1_size wsX1_size) := goodIn_app (goodIn_of _ (by decide +kernel)) ggX5_size_X1_size
theorem dX5_size_9 : decode cX5_size 9 = .ok (.invokespecial 15, 3) := by decide +kernel
theorem dX5_size_12 : decode cX5_size 12 = .ok (.imul, 1) := by decide +kernel
theorem dX5_size_13 : decode cX5_size 13 = .ok (.ireturn, 1) := by decide +kernel
theorem dX1_mark_0 : decode cX1_mark 0 = .ok (.aload_n 1, 1) := by decide +kernel
theorem dX1_mark_1 : decode cX1_mark 1 = .ok (.bipush 23, 2) := by decide +kernel
set_option maxRecDepth 20000 in
theorem ggX1_mark_X9_leave : GoodIn wsX1_mark wsX9_leave := goodIn_r _ [5, 6, 7, 36, 37] (by decide +kernel) (by decide +kernel)
set_option maxRecDepth 20000 in
theorem gX1_mark_X9_leave : GoodIn wsX1_mark (wsV RX1 9 RX9 yX9_leave wsX9_leave) := goodIn_app (goodIn_of _ (by decide +kernel)) ggX1_mark_X9_leave
theorem dX1_mark_3 : decode cX1_mark 3 = .ok (.invokevirtual 9, 3) := by decide +kernel
theorem dX1_mark_6 : decode cX1_mark 6 = .ok (.aload_n 0, 1) := by decide +kernel
theorem dX1_mark_7 : decode cX1_mark 7 = .ok (.aload_n 1, 1) := by decide +kernel
set_option maxRecDepth 20000 in
theorem ggX1_mark_X6_mark : GoodIn wsX1_mark wsX6_mark := goodIn_r _ [13, 14, 15, 2, 3, 4, 5, 6, 7, 38, 39, 40, 41, 42, 43, 44, 45, 46, 47, 48, 49, 50, 51, 52, 53, 54, 55, 56, 57, 36, 37] (by decide +kernel) (by decide +kernel)
set_option maxRecDepth 20000 in
theorem gX1_mark_X6_mark_s19 : GoodIn wsX1_mark (va_wsSU RX1 19 yX6_mark wsX6_mark) := goodIn_app (goodIn_of _ (by decide +kernel)) ggX1_mark_X6_mark
theorem dX1_mark_8 : decode cX1_mark 8 = .ok (.invokespecial 19, 3) := by decide +kernel
theorem dX1_mark_11 : decode cX1_mark 11 = .ok (.istore_n 2, 1) := by decide +kernel
theorem dX1_mark_12 : decode cX1_mark 12 = .ok (.iload_n 2, 1) := by decide +kernel
theorem dX1_mark_13 : decode cX1_mark 13 = .ok (.aload_n 0, 1) := by decide +kernel
theorem dX1_mark_14 : decode cX1_mark 14 = .ok (.aload_n 1, 1) := by decide +kernel
set_option maxRecDepth 20000 in
theorem ggX1_mark_X1_size : GoodIn wsX1_mark wsX1_size := goodIn_r _ [20, 1, 2, 3, 4, 5, 6, 7, 21, 22, 10, 23, 12, 24, 25, 15, 36, 37, 38, 39, 40, 41, 42, 43, 44, 45, 46, 47, 48, 49, 50, 51, 52, 53, 54, 55, 56, 57] (by decide +kernel) (by decide +kernel)
set_option maxRecDepth 20000 in
theorem gX1_mark_X1_size : GoodIn wsX1_mark (wsV RX1 22 RX1 yX1_size wsX1_size) := goodIn_app (goodIn_of _ (by decide +kernel)) ggX1_mark_X1_size
theorem dX1_mark_15 : decode cX1_mark 15 = .ok (.invokevirtual 22, 3) := by decide +kernel
theorem dX1_mark_18 : decode cX1_mark 18 = .ok (.isub, 1) := by decide +kernel
theorem dX1_mark_19 : decode cX1_mark 19 = .ok (.ireturn, 1) := by decide +kernel
set_option maxRecDepth 20000 in
theorem ggX1_mark_X5_size : GoodIn wsX1_mark wsX5_size := goodIn_r _ [32, 33, 2, 3, 4, 5, 6, 7, 34, 27, 35, 17, 19, 20, 1, 21, 22, 10, 23, 12, 24, 25, 15, 36, 37, 38, 39, 40, 41, 42, 43, 44, 45, 46, 47, 48, 49, 50, 51, 52, 53, 54, 55, 56, 57] (by decide +kernel) (by decide +kernel)
set_option maxRecDepth 20000 in
theorem gX1_mark_X5_size_u22X5 : GoodIn wsX1_mark (va_wsO RX1 22 RX5 "BorderBeds$Child" ⟨"BorderBeds$Child", "size", "(LBorderBeds$Trace;)I"⟩ yX5_size wsX5_size) := goodIn_app (goodIn_of _ (by decide +kernel)) ggX1_mark_X5_size
set_option maxRecDepth 100000 in
set_option maxHeartbeats 4000000 in
theorem c_X6_size_X0 {E : XE} {B N : Nat} {v : Nat → va_E} {o : Nat} {num lnd home mil : Int} {m : Nat} {tr : Nat → Int} (hc0 : Cel N v o (.inr (0, [.int (zI num), .int (zI lnd), .int (zI home), .int (zI mil)]))) (hc1 : Cel N v 5 (.inr (8, [.ref (B + 6), .int (zI (m : Int))]))) (hc2 : Cel N v 6 (iarr E 16 tr)) (hq0 : m + 1 ≤ 16) (hq1 : o ≠ 5 ∧ o ≠ 6) : gM yX6_size wsX6_size ({ frames := 1, cells := 0, slots := 0, locals := 21 }) E B N v [.ref (B + o), .ref (B + 5)] (po0 N (fun ρ v' => ρ = some (.int (zI mil)) ∧ (va_up (va_up v 5 (.inr (8, [.ref (B + 6), .int (zI ((m : Int) + 1))]))) 6 (iarr E 16 (va_up tr m 10))) = v')) := by
  refine x_met (nm := "size") (by decide +kernel) rfl (Nat.le_of_ble_eq_true rfl) rfl (fun Γ K KR hnL hnm => ?_)
  show XW Γ N v [(0, .ref (B + o)), (1, .ref (B + 5))] 0 0 0 []
  have hco : ∀ k : Nat, (((m + k : Nat) : Int)) = (m : Int) + (k : Int) := fun k => by omega
  refine x_v (cel_pad hc1) ?_
  refine x_v (cel_pad (cel_ne hc2 (by decide))) ?_
  refine x_aload_n (pc := 0) 1 K rfl rfl dX6_size_0 ?_
  refine x_bipush (pc := 1) K (by decide) dX6_size_1 ?_
  refine x_callV (pc := 3) (C := RX9) (T := TX9) (n := 2) (ci := 8) (As := [.int (zI 10)]) K (c_X9_leave (E := E) (B := B) (N := N) (m := m)  (cel_ne (cel_self hc1.1) (by decide)) (cel_self hc2.1) (by omega)) gX6_size_X9_leave rfl (na := 1) (by decide +kernel) rfl ⟨(Nat.le_of_ble_eq_true rfl), (Nat.le_of_ble_eq_true rfl)⟩ (cel_ne (cel_self hc1.1) (by decide)) rfl (st := []) rfl (Nat.le_of_ble_eq_true rfl) ⟨(Nat.le_of_ble_eq_true rfl), (Nat.le_of_ble_eq_true rfl)⟩ dX6_size_3 (fun r3 N3 w3 hpo3 hN3 => ?_)
  obtain ⟨rfl, rfl, rfl⟩ := hpo3
  refine x_v (congrArg (fun w => (va_up w 6 (iarr E 16 (va_up tr m 10)))) (show (va_up (va_up v 5 (.inr (8, [.ref (B + 6), .int (zI ((m : Int) + 1))]))) 6 (iarr E 16 tr)) = _ from (up_at1 (by decide)).symm)) ?_
  refine x_v (w := (va_up (va_up v 5 (.inr (8, [.ref (B + 6), .int (zI ((m : Int) + 1))]))) 6 (iarr E 16 (va_up tr m 10)))) (up_at0).symm ?_
  refine x_st (st' := []) rfl ?_
  refine x_v (w := (va_up (va_up v 5 (.inr (8, [.ref (B + 6), .int (zI ((m : Int) + 1))]))) 6 (iarr E 16 (va_up tr m 10)))) (by first | rfl | (congr 5; omega)) ?_
  refine x_aload_n (pc := 6) 0 K rfl rfl dX6_size_6 ?_
  refine x_get (pc := 7) (C := RX0) (T := TX0) (n := 4) (ci := 0) (idx := 19) (ref := "BorderBeds$Person") (x := .int (zI mil))  K (cel_ne (cel_ne hc0 (by omega)) (by omega)) rfl (by decide +kernel) 3 (by decide) (by decide +kernel) rfl rfl dX6_size_7 ?_
  refine x_iret (pc := 10) K KR (by omega) (Nat.le_of_ble_eq_true rfl) (Nat.le_of_ble_eq_true rfl) dX6_size_10 ?_
  exact ⟨rfl, rfl, rfl⟩

set_option maxRecDepth 100000 in
set_option maxHeartbeats 4000000 in
theorem c_X6_mark_X0 {E : XE} {B N : Nat} {v : Nat → va_E} {o : Nat} {num lnd home mil : Int} {m : Nat} {tr : Nat → Int} (hc0 : Cel N v o (.inr (0, [.int (zI num), .int (zI lnd), .int (zI home), .int (zI mil)]))) (hc1 : Cel N v 5 (.inr (8, [.ref (B + 6), .int (zI (m : Int))]))) (hc2 : Cel N v 6 (iarr E 16 tr)) (hq0 : m + 1 ≤ 16) (hq1 : o ≠ 5 ∧ o ≠ 6) : gM yX6_mark wsX6_mark ({ frames := 1, cells := 0, slots := 0, locals := 21 }) E B N v [.ref (B + o), .ref (B + 5)] (po0 N (fun ρ v' => ρ = some (.int (zI num)) ∧ (va_up (va_up v 5 (.inr (8, [.ref (B + 6), .int (zI ((m : Int) + 1))]))) 6 (iarr E 16 (va_up tr m 20))) = v')) := by
  refine x_met (nm := "mark") (by decide +kernel) rfl (Nat.le_of_ble_eq_true rfl) rfl (fun Γ K KR hnL hnm => ?_)
  show XW Γ N v [(0, .ref (B + o)), (1, .ref (B + 5))] 0 0 0 []
  have hco : ∀ k : Nat, (((m + k : Nat) : Int)) = (m : Int) + (k : Int) := fun k => by omega
  refine x_v (cel_pad hc1) ?_
  refine x_v (cel_pad (cel_ne hc2 (by decide))) ?_
  refine x_aload_n (pc := 0) 1 K rfl rfl dX6_mark_0 ?_
  refine x_bipush (pc := 1) K (by decide) dX6_mark_1 ?_
  refine x_callV (pc := 3) (C := RX9) (T := TX9) (n := 2) (ci := 8) (As := [.int (zI 20)]) K (c_X9_leave (E := E) (B := B) (N := N) (m := m)  (cel_ne (cel_self hc1.1) (by decide)) (cel_self hc2.1) (by omega)) gX6_mark_X9_leave rfl (na := 1) (by decide +kernel) rfl ⟨(Nat.le_of_ble_eq_true rfl), (Nat.le_of_ble_eq_true rfl)⟩ (cel_ne (cel_self hc1.1) (by decide)) rfl (st := []) rfl (Nat.le_of_ble_eq_true rfl) ⟨(Nat.le_of_ble_eq_true rfl), (Nat.le_of_ble_eq_true rfl)⟩ dX6_mark_3 (fun r3 N3 w3 hpo3 hN3 => ?_)
  obtain ⟨rfl, rfl, rfl⟩ := hpo3
  refine x_v (congrArg (fun w => (va_up w 6 (iarr E 16 (va_up tr m 20)))) (show (va_up (va_up v 5 (.inr (8, [.ref (B + 6), .int (zI ((m : Int) + 1))]))) 6 (iarr E 16 tr)) = _ from (up_at1 (by decide)).symm)) ?_
  refine x_v (w := (va_up (va_up v 5 (.inr (8, [.ref (B + 6), .int (zI ((m : Int) + 1))]))) 6 (iarr E 16 (va_up tr m 20)))) (up_at0).symm ?_
  refine x_st (st' := []) rfl ?_
  refine x_v (w := (va_up (va_up v 5 (.inr (8, [.ref (B + 6), .int (zI ((m : Int) + 1))]))) 6 (iarr E 16 (va_up tr m 20)))) (by first | rfl | (congr 5; omega)) ?_
  refine x_aload_n (pc := 6) 0 K rfl rfl dX6_mark_6 ?_
  refine x_get (pc := 7) (C := RX0) (T := TX0) (n := 4) (ci := 0) (idx := 7) (ref := "BorderBeds$Person") (x := .int (zI num))  K (cel_ne (cel_ne hc0 (by omega)) (by omega)) rfl (by decide +kernel) 0 (by decide) (by decide +kernel) rfl rfl dX6_mark_7 ?_
  refine x_iret (pc := 10) K KR (by omega) (Nat.le_of_ble_eq_true rfl) (Nat.le_of_ble_eq_true rfl) dX6_mark_10 ?_
  exact ⟨rfl, rfl, rfl⟩

set_option maxRecDepth 100000 in
set_option maxHeartbeats 4000000 in
theorem c_X6_size_X2 {E : XE} {B N : Nat} {v : Nat → va_E} {o : Nat} {num lnd home mil : Int} {m : Nat} {tr : Nat → Int} (hc0 : Cel N v o (.inr (2, [.int (zI num), .int (zI lnd), .int (zI home), .int (zI mil)]))) (hc1 : Cel N v 5 (.inr (8, [.ref (B + 6), .int (zI (m : Int))]))) (hc2 : Cel N v 6 (iarr E 16 tr)) (hq0 : m + 1 ≤ 16) (hq1 : o ≠ 5 ∧ o ≠ 6) : gM yX6_size wsX6_size ({ frames := 1, cells := 0, slots := 0, locals := 21 }) E B N v [.ref (B + o), .ref (B + 5)] (po0 N (fun ρ v' => ρ = some (.int (zI mil)) ∧ (va_up (va_up v 5 (.inr (8, [.ref (B + 6), .int (zI ((m : Int) + 1))]))) 6 (iarr E 16 (va_up tr m 10))) = v')) := by
  refine x_met (nm := "size") (by decide +kernel) rfl (Nat.le_of_ble_eq_true rfl) rfl (fun Γ K KR hnL hnm => ?_)
  show XW Γ N v [(0, .ref (B + o)), (1, .ref (B + 5))] 0 0 0 []
  have hco : ∀ k : Nat, (((m + k : Nat) : Int)) = (m : Int) + (k : Int) := fun k => by omega
  refine x_v (cel_pad hc1) ?_
  refine x_v (cel_pad (cel_ne hc2 (by decide))) ?_
  refine x_aload_n (pc := 0) 1 K rfl rfl dX6_size_0 ?_
  refine x_bipush (pc := 1) K (by decide) dX6_size_1 ?_
  refine x_callV (pc := 3) (C := RX9) (T := TX9) (n := 2) (ci := 8) (As := [.int (zI 10)]) K (c_X9_leave (E := E) (B := B) (N := N) (m := m)  (cel_ne (cel_self hc1.1) (by decide)) (cel_self hc2.1) (by omega)) gX6_size_X9_leave rfl (na := 1) (by decide +kernel) rfl ⟨(Nat.le_of_ble_eq_true rfl), (Nat.le_of_ble_eq_true rfl)⟩ (cel_ne (cel_self hc1.1) (by decide)) rfl (st := []) rfl (Nat.le_of_ble_eq_true rfl) ⟨(Nat.le_of_ble_eq_true rfl), (Nat.le_of_ble_eq_true rfl)⟩ dX6_size_3 (fun r3 N3 w3 hpo3 hN3 => ?_)
  obtain ⟨rfl, rfl, rfl⟩ := hpo3
  refine x_v (congrArg (fun w => (va_up w 6 (iarr E 16 (va_up tr m 10)))) (show (va_up (va_up v 5 (.inr (8, [.ref (B + 6), .int (zI ((m : Int) + 1))]))) 6 (iarr E 16 tr)) = _ from (up_at1 (by decide)).symm)) ?_
  refine x_v (w := (va_up (va_up v 5 (.inr (8, [.ref (B + 6), .int (zI ((m : Int) + 1))]))) 6 (iarr E 16 (va_up tr m 10)))) (up_at0).symm ?_
  refine x_st (st' := []) rfl ?_
  refine x_v (w := (va_up (va_up v 5 (.inr (8, [.ref (B + 6), .int (zI ((m : Int) + 1))]))) 6 (iarr E 16 (va_up tr m 10)))) (by first | rfl | (congr 5; omega)) ?_
  refine x_aload_n (pc := 6) 0 K rfl rfl dX6_size_6 ?_
  refine x_get (pc := 7) (C := RX2) (T := TX2) (n := 4) (ci := 2) (idx := 19) (ref := "BorderBeds$Person") (x := .int (zI mil))  K (cel_ne (cel_ne hc0 (by omega)) (by omega)) rfl (by decide +kernel) 3 (by decide) (by decide +kernel) rfl rfl dX6_size_7 ?_
  refine x_iret (pc := 10) K KR (by omega) (Nat.le_of_ble_eq_true rfl) (Nat.le_of_ble_eq_true rfl) dX6_size_10 ?_
  exact ⟨rfl, rfl, rfl⟩

set_option maxRecDepth 100000 in
set_option maxHeartbeats 4000000 in
theorem c_X6_mark_X2 {E : XE} {B N : Nat} {v : Nat → va_E} {o : Nat} {num lnd home mil : Int} {m : Nat} {tr : Nat → Int} (hc0 : Cel N v o (.inr (2, [.int (zI num), .int (zI lnd), .int (zI home), .int (zI mil)]))) (hc1 : Cel N v 5 (.inr (8, [.ref (B + 6), .int (zI (m : Int))]))) (hc2 : Cel N v 6 (iarr E 16 tr)) (hq0 : m + 1 ≤ 16) (hq1 : o ≠ 5 ∧ o ≠ 6) : gM yX6_mark wsX6_mark ({ frames := 1, cells := 0, slots := 0, locals := 21 }) E B N v [.ref (B + o), .ref (B + 5)] (po0 N (fun ρ v' => ρ = some (.int (zI num)) ∧ (va_up (va_up v 5 (.inr (8, [.ref (B + 6), .int (zI ((m : Int) + 1))]))) 6 (iarr E 16 (va_up tr m 20))) = v')) := by
  refine x_met (nm := "mark") (by decide +kernel) rfl (Nat.le_of_ble_eq_true rfl) rfl (fun Γ K KR hnL hnm => ?_)
  show XW Γ N v [(0, .ref (B + o)), (1, .ref (B + 5))] 0 0 0 []
  have hco : ∀ k : Nat, (((m + k : Nat) : Int)) = (m : Int) + (k : Int) := fun k => by omega
  refine x_v (cel_pad hc1) ?_
  refine x_v (cel_pad (cel_ne hc2 (by decide))) ?_
  refine x_aload_n (pc := 0) 1 K rfl rfl dX6_mark_0 ?_
  refine x_bipush (pc := 1) K (by decide) dX6_mark_1 ?_
  refine x_callV (pc := 3) (C := RX9) (T := TX9) (n := 2) (ci := 8) (As := [.int (zI 20)]) K (c_X9_leave (E := E) (B := B) (N := N) (m := m)  (cel_ne (cel_self hc1.1) (by decide)) (cel_self hc2.1) (by omega)) gX6_mark_X9_leave rfl (na := 1) (by decide +kernel) rfl ⟨(Nat.le_of_ble_eq_true rfl), (Nat.le_of_ble_eq_true rfl)⟩ (cel_ne (cel_self hc1.1) (by decide)) rfl (st := []) rfl (Nat.le_of_ble_eq_true rfl) ⟨(Nat.le_of_ble_eq_true rfl), (Nat.le_of_ble_eq_true rfl)⟩ dX6_mark_3 (fun r3 N3 w3 hpo3 hN3 => ?_)
  obtain ⟨rfl, rfl, rfl⟩ := hpo3
  refine x_v (congrArg (fun w => (va_up w 6 (iarr E 16 (va_up tr m 20)))) (show (va_up (va_up v 5 (.inr (8, [.ref (B + 6), .int (zI ((m : Int) + 1))]))) 6 (iarr E 16 tr)) = _ from (up_at1 (by decide)).symm)) ?_
  refine x_v (w := (va_up (va_up v 5 (.inr (8, [.ref (B + 6), .int (zI ((m : Int) + 1))]))) 6 (iarr E 16 (va_up tr m 20)))) (up_at0).symm ?_
  refine x_st (st' := []) rfl ?_
  refine x_v (w := (va_up (va_up v 5 (.inr (8, [.ref (B + 6), .int (zI ((m : Int) + 1))]))) 6 (iarr E 16 (va_up tr m 20)))) (by first | rfl | (congr 5; omega)) ?_
  refine x_aload_n (pc := 6) 0 K rfl rfl dX6_mark_6 ?_
  refine x_get (pc := 7) (C := RX2) (T := TX2) (n := 4) (ci := 2) (idx := 7) (ref := "BorderBeds$Person") (x := .int (zI num))  K (cel_ne (cel_ne hc0 (by omega)) (by omega)) rfl (by decide +kernel) 0 (by decide) (by decide +kernel) rfl rfl dX6_mark_7 ?_
  refine x_iret (pc := 10) K KR (by omega) (Nat.le_of_ble_eq_true rfl) (Nat.le_of_ble_eq_true rfl) dX6_mark_10 ?_
  exact ⟨rfl, rfl, rfl⟩

set_option maxRecDepth 100000 in
set_option maxHeartbeats 4000000 in
theorem c_X6_size_X10 {E : XE} {B N : Nat} {v : Nat → va_E} {o : Nat} {num lnd home mil : Int} {m : Nat} {tr : Nat → Int} (hc0 : Cel N v o (.inr (9, [.int (zI num), .int (zI lnd), .int (zI home), .int (zI mil)]))) (hc1 : Cel N v 5 (.inr (8, [.ref (B + 6), .int (zI (m : Int))]))) (hc2 : Cel N v 6 (iarr E 16 tr)) (hq0 : m + 1 ≤ 16) (hq1 : o ≠ 5 ∧ o ≠ 6) : gM yX6_size wsX6_size ({ frames := 1, cells := 0, slots := 0, locals := 21 }) E B N v [.ref (B + o), .ref (B + 5)] (po0 N (fun ρ v' => ρ = some (.int (zI mil)) ∧ (va_up (va_up v 5 (.inr (8, [.ref (B + 6), .int (zI ((m : Int) + 1))]))) 6 (iarr E 16 (va_up tr m 10))) = v')) := by
  refine x_met (nm := "size") (by decide +kernel) rfl (Nat.le_of_ble_eq_true rfl) rfl (fun Γ K KR hnL hnm => ?_)
  show XW Γ N v [(0, .ref (B + o)), (1, .ref (B + 5))] 0 0 0 []
  have hco : ∀ k : Nat, (((m + k : Nat) : Int)) = (m : Int) + (k : Int) := fun k => by omega
  refine x_v (cel_pad hc1) ?_
  refine x_v (cel_pad (cel_ne hc2 (by decide))) ?_
  refine x_aload_n (pc := 0) 1 K rfl rfl dX6_size_0 ?_
  refine x_bipush (pc := 1) K (by decide) dX6_size_1 ?_
  refine x_callV (pc := 3) (C := RX9) (T := TX9) (n := 2) (ci := 8) (As := [.int (zI 10)]) K (c_X9_leave (E := E) (B := B) (N := N) (m := m)  (cel_ne (cel_self hc1.1) (by decide)) (cel_self hc2.1) (by omega)) gX6_size_X9_leave rfl (na := 1) (by decide +kernel) rfl ⟨(Nat.le_of_ble_eq_true rfl), (Nat.le_of_ble_eq_true rfl)⟩ (cel_ne (cel_self hc1.1) (by decide)) rfl (st := []) rfl (Nat.le_of_ble_eq_true rfl) ⟨(Nat.le_of_ble_eq_true rfl), (Nat.le_of_ble_eq_true rfl)⟩ dX6_size_3 (fun r3 N3 w3 hpo3 hN3 => ?_)
  obtain ⟨rfl, rfl, rfl⟩ := hpo3
  refine x_v (congrArg (fun w => (va_up w 6 (iarr E 16 (va_up tr m 10)))) (show (va_up (va_up v 5 (.inr (8, [.ref (B + 6), .int (zI ((m : Int) + 1))]))) 6 (iarr E 16 tr)) = _ from (up_at1 (by decide)).symm)) ?_
  refine x_v (w := (va_up (va_up v 5 (.inr (8, [.ref (B + 6), .int (zI ((m : Int) + 1))]))) 6 (iarr E 16 (va_up tr m 10)))) (up_at0).symm ?_
  refine x_st (st' := []) rfl ?_
  refine x_v (w := (va_up (va_up v 5 (.inr (8, [.ref (B + 6), .int (zI ((m : Int) + 1))]))) 6 (iarr E 16 (va_up tr m 10)))) (by first | rfl | (congr 5; omega)) ?_
  refine x_aload_n (pc := 6) 0 K rfl rfl dX6_size_6 ?_
  refine x_get (pc := 7) (C := RX10) (T := TX10) (n := 4) (ci := 9) (idx := 19) (ref := "BorderBeds$Person") (x := .int (zI mil))  K (cel_ne (cel_ne hc0 (by omega)) (by omega)) rfl (by decide +kernel) 3 (by decide) (by decide +kernel) rfl rfl dX6_size_7 ?_
  refine x_iret (pc := 10) K KR (by omega) (Nat.le_of_ble_eq_true rfl) (Nat.le_of_ble_eq_true rfl) dX6_size_10 ?_
  exact ⟨rfl, rfl, rfl⟩

set_option maxRecDepth 100000 in
set_option maxHeartbeats 4000000 in
theorem c_X6_mark_X10 {E : XE} {B N : Nat} {v : Nat → va_E} {o : Nat} {num lnd home mil : Int} {m : Nat} {tr : Nat → Int} (hc0 : Cel N v o (.inr (9, [.int (zI num), .int (zI lnd), .int (zI home), .int (zI mil)]))) (hc1 : Cel N v 5 (.inr (8, [.ref (B + 6), .int (zI (m : Int))]))) (hc2 : Cel N v 6 (iarr E 16 tr)) (hq0 : m + 1 ≤ 16) (hq1 : o ≠ 5 ∧ o ≠ 6) : gM yX6_mark wsX6_mark ({ frames := 1, cells := 0, slots := 0, locals := 21 }) E B N v [.ref (B + o), .ref (B + 5)] (po0 N (fun ρ v' => ρ = some (.int (zI num)) ∧ (va_up (va_up v 5 (.inr (8, [.ref (B + 6), .int (zI ((m : Int) + 1))]))) 6 (iarr E 16 (va_up tr m 20))) = v')) := by
  refine x_met (nm := "mark") (by decide +kernel) rfl (Nat.le_of_ble_eq_true rfl) rfl (fun Γ K KR hnL hnm => ?_)
  show XW Γ N v [(0, .ref (B + o)), (1, .ref (B + 5))] 0 0 0 []
  have hco : ∀ k : Nat, (((m + k : Nat) : Int)) = (m : Int) + (k : Int) := fun k => by omega
  refine x_v (cel_pad hc1) ?_
  refine x_v (cel_pad (cel_ne hc2 (by decide))) ?_
  refine x_aload_n (pc := 0) 1 K rfl rfl dX6_mark_0 ?_
  refine x_bipush (pc := 1) K (by decide) dX6_mark_1 ?_
  refine x_callV (pc := 3) (C := RX9) (T := TX9) (n := 2) (ci := 8) (As := [.int (zI 20)]) K (c_X9_leave (E := E) (B := B) (N := N) (m := m)  (cel_ne (cel_self hc1.1) (by decide)) (cel_self hc2.1) (by omega)) gX6_mark_X9_leave rfl (na := 1) (by decide +kernel) rfl ⟨(Nat.le_of_ble_eq_true rfl), (Nat.le_of_ble_eq_true rfl)⟩ (cel_ne (cel_self hc1.1) (by decide)) rfl (st := []) rfl (Nat.le_of_ble_eq_true rfl) ⟨(Nat.le_of_ble_eq_true rfl), (Nat.le_of_ble_eq_true rfl)⟩ dX6_mark_3 (fun r3 N3 w3 hpo3 hN3 => ?_)
  obtain ⟨rfl, rfl, rfl⟩ := hpo3
  refine x_v (congrArg (fun w => (va_up w 6 (iarr E 16 (va_up tr m 20)))) (show (va_up (va_up v 5 (.inr (8, [.ref (B + 6), .int (zI ((m : Int) + 1))]))) 6 (iarr E 16 tr)) = _ from (up_at1 (by decide)).symm)) ?_
  refine x_v (w := (va_up (va_up v 5 (.inr (8, [.ref (B + 6), .int (zI ((m : Int) + 1))]))) 6 (iarr E 16 (va_up tr m 20)))) (up_at0).symm ?_
  refine x_st (st' := []) rfl ?_
  refine x_v (w := (va_up (va_up v 5 (.inr (8, [.ref (B + 6), .int (zI ((m : Int) + 1))]))) 6 (iarr E 16 (va_up tr m 20)))) (by first | rfl | (congr 5; omega)) ?_
  refine x_aload_n (pc := 6) 0 K rfl rfl dX6_mark_6 ?_
  refine x_get (pc := 7) (C := RX10) (T := TX10) (n := 4) (ci := 9) (idx := 7) (ref := "BorderBeds$Person") (x := .int (zI num))  K (cel_ne (cel_ne hc0 (by omega)) (by omega)) rfl (by decide +kernel) 0 (by decide) (by decide +kernel) rfl rfl dX6_mark_7 ?_
  refine x_iret (pc := 10) K KR (by omega) (Nat.le_of_ble_eq_true rfl) (Nat.le_of_ble_eq_true rfl) dX6_mark_10 ?_
  exact ⟨rfl, rfl, rfl⟩

set_option maxRecDepth 100000 in
set_option maxHeartbeats 4000000 in
theorem c_X6_size_X1 {E : XE} {B N : Nat} {v : Nat → va_E} {o : Nat} {num lnd home mil : Int} {m : Nat} {tr : Nat → Int} (hc0 : Cel N v o (.inr (1, [.int (zI num), .int (zI lnd), .int (zI home), .int (zI mil)]))) (hc1 : Cel N v 5 (.inr (8, [.ref (B + 6), .int (zI (m : Int))]))) (hc2 : Cel N v 6 (iarr E 16 tr)) (hq0 : m + 1 ≤ 16) (hq1 : o ≠ 5 ∧ o ≠ 6) : gM yX6_size wsX6_size ({ frames := 1, cells := 0, slots := 0, locals := 21 }) E B N v [.ref (B + o), .ref (B + 5)] (po0 N (fun ρ v' => ρ = some (.int (zI mil)) ∧ (va_up (va_up v 5 (.inr (8, [.ref (B + 6), .int (zI ((m : Int) + 1))]))) 6 (iarr E 16 (va_up tr m 10))) = v')) := by
  refine x_met (nm := "size") (by decide +kernel) rfl (Nat.le_of_ble_eq_true rfl) rfl (fun Γ K KR hnL hnm => ?_)
  show XW Γ N v [(0, .ref (B + o)), (1, .ref (B + 5))] 0 0 0 []
  have hco : ∀ k : Nat, (((m + k : Nat) : Int)) = (m : Int) + (k : Int) := fun k => by omega
  refine x_v (cel_pad hc1) ?_
  refine x_v (cel_pad (cel_ne hc2 (by decide))) ?_
  refine x_aload_n (pc := 0) 1 K rfl rfl dX6_size_0 ?_
  refine x_bipush (pc := 1) K (by decide) dX6_size_1 ?_
  refine x_callV (pc := 3) (C := RX9) (T := TX9) (n := 2) (ci := 8) (As := [.int (zI 10)]) K (c_X9_leave (E := E) (B := B) (N := N) (m := m)  (cel_ne (cel_self hc1.1) (by decide)) (cel_self hc2.1) (by omega)) gX6_size_X9_leave rfl (na := 1) (by decide +kernel) rfl ⟨(Nat.le_of_ble_eq_true rfl), (Nat.le_of_ble_eq_true rfl)⟩ (cel_ne (cel_self hc1.1) (by decide)) rfl (st := []) rfl (Nat.le_of_ble_eq_true rfl) ⟨(Nat.le_of_ble_eq_true rfl), (Nat.le_of_ble_eq_true rfl)⟩ dX6_size_3 (fun r3 N3 w3 hpo3 hN3 => ?_)
  obtain ⟨rfl, rfl, rfl⟩ := hpo3
  refine x_v (congrArg (fun w => (va_up w 6 (iarr E 16 (va_up tr m 10)))) (show (va_up (va_up v 5 (.inr (8, [.ref (B + 6), .int (zI ((m : Int) + 1))]))) 6 (iarr E 16 tr)) = _ from (up_at1 (by decide)).symm)) ?_
  refine x_v (w := (va_up (va_up v 5 (.inr (8, [.ref (B + 6), .int (zI ((m : Int) + 1))]))) 6 (iarr E 16 (va_up tr m 10)))) (up_at0).symm ?_
  refine x_st (st' := []) rfl ?_
  refine x_v (w := (va_up (va_up v 5 (.inr (8, [.ref (B + 6), .int (zI ((m : Int) + 1))]))) 6 (iarr E 16 (va_up tr m 10)))) (by first | rfl | (congr 5; omega)) ?_
  refine x_aload_n (pc := 6) 0 K rfl rfl dX6_size_6 ?_
  refine x_get (pc := 7) (C := RX1) (T := TX1) (n := 4) (ci := 1) (idx := 19) (ref := "BorderBeds$Person") (x := .int (zI mil))  K (cel_ne (cel_ne hc0 (by omega)) (by omega)) rfl (by decide +kernel) 3 (by decide) (by decide +kernel) rfl rfl dX6_size_7 ?_
  refine x_iret (pc := 10) K KR (by omega) (Nat.le_of_ble_eq_true rfl) (Nat.le_of_ble_eq_true rfl) dX6_size_10 ?_
  exact ⟨rfl, rfl, rfl⟩

set_option maxRecDepth 100000 in
set_option maxHeartbeats 4000000 in
theorem c_X6_mark_X1 {E : XE} {B N : Nat} {v : Nat → va_E} {o : Nat} {num lnd home mil : Int} {m : Nat} {tr : Nat → Int} (hc0 : Cel N v o (.inr (1, [.int (zI num), .int (zI lnd), .int (zI home), .int (zI mil)]))) (hc1 : Cel N v 5 (.inr (8, [.ref (B + 6), .int (zI (m : Int))]))) (hc2 : Cel N v 6 (iarr E 16 tr)) (hq0 : m + 1 ≤ 16) (hq1 : o ≠ 5 ∧ o ≠ 6) : gM yX6_mark wsX6_mark ({ frames := 1, cells := 0, slots := 0, locals := 21 }) E B N v [.ref (B + o), .ref (B + 5)] (po0 N (fun ρ v' => ρ = some (.int (zI num)) ∧ (va_up (va_up v 5 (.inr (8, [.ref (B + 6), .int (zI ((m : Int) + 1))]))) 6 (iarr E 16 (va_up tr m 20))) = v')) := by
  refine x_met (nm := "mark") (by decide +kernel) rfl (Nat.le_of_ble_eq_true rfl) rfl (fun Γ K KR hnL hnm => ?_)
  show XW Γ N v [(0, .ref (B + o)), (1, .ref (B + 5))] 0 0 0 []
  have hco : ∀ k : Nat, (((m + k : Nat) : Int)) = (m : Int) + (k : Int) := fun k => by omega
  refine x_v (cel_pad hc1) ?_
  refine x_v (cel_pad (cel_ne hc2 (by decide))) ?_
  refine x_aload_n (pc := 0) 1 K rfl rfl dX6_mark_0 ?_
  refine x_bipush (pc := 1) K (by decide) dX6_mark_1 ?_
  refine x_callV (pc := 3) (C := RX9) (T := TX9) (n := 2) (ci := 8) (As := [.int (zI 20)]) K (c_X9_leave (E := E) (B := B) (N := N) (m := m)  (cel_ne (cel_self hc1.1) (by decide)) (cel_self hc2.1) (by omega)) gX6_mark_X9_leave rfl (na := 1) (by decide +kernel) rfl ⟨(Nat.le_of_ble_eq_true rfl), (Nat.le_of_ble_eq_true rfl)⟩ (cel_ne (cel_self hc1.1) (by decide)) rfl (st := []) rfl (Nat.le_of_ble_eq_true rfl) ⟨(Nat.le_of_ble_eq_true rfl), (Nat.le_of_ble_eq_true rfl)⟩ dX6_mark_3 (fun r3 N3 w3 hpo3 hN3 => ?_)
  obtain ⟨rfl, rfl, rfl⟩ := hpo3
  refine x_v (congrArg (fun w => (va_up w 6 (iarr E 16 (va_up tr m 20)))) (show (va_up (va_up v 5 (.inr (8, [.ref (B + 6), .int (zI ((m : Int) + 1))]))) 6 (iarr E 16 tr)) = _ from (up_at1 (by decide)).symm)) ?_
  refine x_v (w := (va_up (va_up v 5 (.inr (8, [.ref (B + 6), .int (zI ((m : Int) + 1))]))) 6 (iarr E 16 (va_up tr m 20)))) (up_at0).symm ?_
  refine x_st (st' := []) rfl ?_
  refine x_v (w := (va_up (va_up v 5 (.inr (8, [.ref (B + 6), .int (zI ((m : Int) + 1))]))) 6 (iarr E 16 (va_up tr m 20)))) (by first | rfl | (congr 5; omega)) ?_
  refine x_aload_n (pc := 6) 0 K rfl rfl dX6_mark_6 ?_
  refine x_get (pc := 7) (C := RX1) (T := TX1) (n := 4) (ci := 1) (idx := 7) (ref := "BorderBeds$Person") (x := .int (zI num))  K (cel_ne (cel_ne hc0 (by omega)) (by omega)) rfl (by decide +kernel) 0 (by decide) (by decide +kernel) rfl rfl dX6_mark_7 ?_
  refine x_iret (pc := 10) K KR (by omega) (Nat.le_of_ble_eq_true rfl) (Nat.le_of_ble_eq_true rfl) dX6_mark_10 ?_
  exact ⟨rfl, rfl, rfl⟩

set_option maxRecDepth 100000 in
set_option maxHeartbeats 4000000 in
theorem c_X6_size_X5 {E : XE} {B N : Nat} {v : Nat → va_E} {o : Nat} {num lnd home mil : Int} {m : Nat} {tr : Nat → Int} (hc0 : Cel N v o (.inr (5, [.int (zI num), .int (zI lnd), .int (zI home), .int (zI mil)]))) (hc1 : Cel N v 5 (.inr (8, [.ref (B + 6), .int (zI (m : Int))]))) (hc2 : Cel N v 6 (iarr E 16 tr)) (hq0 : m + 1 ≤ 16) (hq1 : o ≠ 5 ∧ o ≠ 6) : gM yX6_size wsX6_size ({ frames := 1, cells := 0, slots := 0, locals := 21 }) E B N v [.ref (B + o), .ref (B + 5)] (po0 N (fun ρ v' => ρ = some (.int (zI mil)) ∧ (va_up (va_up v 5 (.inr (8, [.ref (B + 6), .int (zI ((m : Int) + 1))]))) 6 (iarr E 16 (va_up tr m 10))) = v')) := by
  refine x_met (nm := "size") (by decide +kernel) rfl (Nat.le_of_ble_eq_true rfl) rfl (fun Γ K KR hnL hnm => ?_)
  show XW Γ N v [(0, .ref (B + o)), (1, .ref (B + 5))] 0 0 0 []
  have hco : ∀ k : Nat, (((m + k : Nat) : Int)) = (m : Int) + (k : Int) := fun k => by omega
  refine x_v (cel_pad hc1) ?_
  refine x_v (cel_pad (cel_ne hc2 (by decide))) ?_
  refine x_aload_n (pc := 0) 1 K rfl rfl dX6_size_0 ?_
  refine x_bipush (pc := 1) K (by decide) dX6_size_1 ?_
  refine x_callV (pc := 3) (C := RX9) (T := TX9) (n := 2) (ci := 8) (As := [.int (zI 10)]) K (c_X9_leave (E := E) (B := B) (N := N) (m := m)  (cel_ne (cel_self hc1.1) (by decide)) (cel_self hc2.1) (by omega)) gX6_size_X9_leave rfl (na := 1) (by decide +kernel) rfl ⟨(Nat.le_of_ble_eq_true rfl), (Nat.le_of_ble_eq_true rfl)⟩ (cel_ne (cel_self hc1.1) (by decide)) rfl (st := []) rfl (Nat.le_of_ble_eq_true rfl) ⟨(Nat.le_of_ble_eq_true rfl), (Nat.le_of_ble_eq_true rfl)⟩ dX6_size_3 (fun r3 N3 w3 hpo3 hN3 => ?_)
  obtain ⟨rfl, rfl, rfl⟩ := hpo3
  refine x_v (congrArg (fun w => (va_up w 6 (iarr E 16 (va_up tr m 10)))) (show (va_up (va_up v 5 (.inr (8, [.ref (B + 6), .int (zI ((m : Int) + 1))]))) 6 (iarr E 16 tr)) = _ from (up_at1 (by decide)).symm)) ?_
  refine x_v (w := (va_up (va_up v 5 (.inr (8, [.ref (B + 6), .int (zI ((m : Int) + 1))]))) 6 (iarr E 16 (va_up tr m 10)))) (up_at0).symm ?_
  refine x_st (st' := []) rfl ?_
  refine x_v (w := (va_up (va_up v 5 (.inr (8, [.ref (B + 6), .int (zI ((m : Int) + 1))]))) 6 (iarr E 16 (va_up tr m 10)))) (by first | rfl | (congr 5; omega)) ?_
  refine x_aload_n (pc := 6) 0 K rfl rfl dX6_size_6 ?_
  refine x_get (pc := 7) (C := RX5) (T := TX5) (n := 4) (ci := 5) (idx := 19) (ref := "BorderBeds$Person") (x := .int (zI mil))  K (cel_ne (cel_ne hc0 (by omega)) (by omega)) rfl (by decide +kernel) 3 (by decide) (by decide +kernel) rfl rfl dX6_size_7 ?_
  refine x_iret (pc := 10) K KR (by omega) (Nat.le_of_ble_eq_true rfl) (Nat.le_of_ble_eq_true rfl) dX6_size_10 ?_
  exact ⟨rfl, rfl, rfl⟩

set_option maxRecDepth 100000 in
set_option maxHeartbeats 4000000 in
theorem c_X6_mark_X5 {E : XE} {B N : Nat} {v : Nat → va_E} {o : Nat} {num lnd home mil : Int} {m : Nat} {tr : Nat → Int} (hc0 : Cel N v o (.inr (5, [.int (zI num), .int (zI lnd), .int (zI home), .int (zI mil)]))) (hc1 : Cel N v 5 (.inr (8, [.ref (B + 6), .int (zI (m : Int))]))) (hc2 : Cel N v 6 (iarr E 16 tr)) (hq0 : m + 1 ≤ 16) (hq1 : o ≠ 5 ∧ o ≠ 6) : gM yX6_mark wsX6_mark ({ frames := 1, cells := 0, slots := 0, locals := 21 }) E B N v [.ref (B + o), .ref (B + 5)] (po0 N (fun ρ v' => ρ = some (.int (zI num)) ∧ (va_up (va_up v 5 (.inr (8, [.ref (B + 6), .int (zI ((m : Int) + 1))]))) 6 (iarr E 16 (va_up tr m 20))) = v')) := by
  refine x_met (nm := "mark") (by decide +kernel) rfl (Nat.le_of_ble_eq_true rfl) rfl (fun Γ K KR hnL hnm => ?_)
  show XW Γ N v [(0, .ref (B + o)), (1, .ref (B + 5))] 0 0 0 []
  have hco : ∀ k : Nat, (((m + k : Nat) : Int)) = (m : Int) + (k : Int) := fun k => by omega
  refine x_v (cel_pad hc1) ?_
  refine x_v (cel_pad (cel_ne hc2 (by decide))) ?_
  refine x_aload_n (pc := 0) 1 K rfl rfl dX6_mark_0 ?_
  refine x_bipush (pc := 1) K (by decide) dX6_mark_1 ?_
  refine x_callV (pc := 3) (C := RX9) (T := TX9) (n := 2) (ci := 8) (As := [.int (zI 20)]) K (c_X9_leave (E := E) (B := B) (N := N) (m := m)  (cel_ne (cel_self hc1.1) (by decide)) (cel_self hc2.1) (by omega)) gX6_mark_X9_leave rfl (na := 1) (by decide +kernel) rfl ⟨(Nat.le_of_ble_eq_true rfl), (Nat.le_of_ble_eq_true rfl)⟩ (cel_ne (cel_self hc1.1) (by decide)) rfl (st := []) rfl (Nat.le_of_ble_eq_true rfl) ⟨(Nat.le_of_ble_eq_true rfl), (Nat.le_of_ble_eq_true rfl)⟩ dX6_mark_3 (fun r3 N3 w3 hpo3 hN3 => ?_)
  obtain ⟨rfl, rfl, rfl⟩ := hpo3
  refine x_v (congrArg (fun w => (va_up w 6 (iarr E 16 (va_up tr m 20)))) (show (va_up (va_up v 5 (.inr (8, [.ref (B + 6), .int (zI ((m : Int) + 1))]))) 6 (iarr E 16 tr)) = _ from (up_at1 (by decide)).symm)) ?_
  refine x_v (w := (va_up (va_up v 5 (.inr (8, [.ref (B + 6), .int (zI ((m : Int) + 1))]))) 6 (iarr E 16 (va_up tr m 20)))) (up_at0).symm ?_
  refine x_st (st' := []) rfl ?_
  refine x_v (w := (va_up (va_up v 5 (.inr (8, [.ref (B + 6), .int (zI ((m : Int) + 1))]))) 6 (iarr E 16 (va_up tr m 20)))) (by first | rfl | (congr 5; omega)) ?_
  refine x_aload_n (pc := 6) 0 K rfl rfl dX6_mark_6 ?_
  refine x_get (pc := 7) (C := RX5) (T := TX5) (n := 4) (ci := 5) (idx := 7) (ref := "BorderBeds$Person") (x := .int (zI num))  K (cel_ne (cel_ne hc0 (by omega)) (by omega)) rfl (by decide +kernel) 0 (by decide) (by decide +kernel) rfl rfl dX6_mark_7 ?_
  refine x_iret (pc := 10) K KR (by omega) (Nat.le_of_ble_eq_true rfl) (Nat.le_of_ble_eq_true rfl) dX6_mark_10 ?_
  exact ⟨rfl, rfl, rfl⟩

set_option maxRecDepth 100000 in
set_option maxHeartbeats 4000000 in
theorem c_X0_mark_X0 {E : XE} {B N : Nat} {v : Nat → va_E} {o : Nat} {num lnd home mil : Int} {m : Nat} {tr : Nat → Int} (hc0 : Cel N v o (.inr (0, [.int (zI num), .int (zI lnd), .int (zI home), .int (zI mil)]))) (hc1 : Cel N v 5 (.inr (8, [.ref (B + 6), .int (zI (m : Int))]))) (hc2 : Cel N v 6 (iarr E 16 tr)) (hq0 : m + 2 ≤ 16) (hq1 : o ≠ 5 ∧ o ≠ 6) : gM yX0_mark wsX0_mark ({ frames := 2, cells := 0, slots := 0, locals := 42 }) E B N v [.ref (B + o), .ref (B + 5)] (po0 N (fun ρ v' => ρ = some (.int (zI (num + home))) ∧ (va_up (va_up v 5 (.inr (8, [.ref (B + 6), .int (zI ((m : Int) + 2))]))) 6 (iarr E 16 (va_up (va_up tr m 21) (m + 1) 20))) = v')) := by
  refine x_met (nm := "mark") (by decide +kernel) rfl (Nat.le_of_ble_eq_true rfl) rfl (fun Γ K KR hnL hnm => ?_)
  show XW Γ N v [(0, .ref (B + o)), (1, .ref (B + 5))] 0 0 0 []
  have hco : ∀ k : Nat, (((m + k : Nat) : Int)) = (m : Int) + (k : Int) := fun k => by omega
  refine x_v (cel_pad hc1) ?_
  refine x_v (cel_pad (cel_ne hc2 (by decide))) ?_
  refine x_aload_n (pc := 0) 1 K rfl rfl dX0_mark_0 ?_
  refine x_bipush (pc := 1) K (by decide) dX0_mark_1 ?_
  refine x_callV (pc := 3) (C := RX9) (T := TX9) (n := 2) (ci := 8) (As := [.int (zI 21)]) K (c_X9_leave (E := E) (B := B) (N := N) (m := m)  (cel_ne (cel_self hc1.1) (by decide)) (cel_self hc2.1) (by omega)) gX0_mark_X9_leave rfl (na := 1) (by decide +kernel) rfl ⟨(Nat.le_of_ble_eq_true rfl), (Nat.le_of_ble_eq_true rfl)⟩ (cel_ne (cel_self hc1.1) (by decide)) rfl (st := []) rfl (Nat.le_of_ble_eq_true rfl) ⟨(Nat.le_of_ble_eq_true rfl), (Nat.le_of_ble_eq_true rfl)⟩ dX0_mark_3 (fun r3 N3 w3 hpo3 hN3 => ?_)
  obtain ⟨rfl, rfl, rfl⟩ := hpo3
  refine x_v (congrArg (fun w => (va_up w 6 (iarr E 16 (va_up tr m 21)))) (show (va_up (va_up v 5 (.inr (8, [.ref (B + 6), .int (zI ((m : Int) + 1))]))) 6 (iarr E 16 tr)) = _ from (up_at1 (by decide)).symm)) ?_
  refine x_v (w := (va_up (va_up v 5 (.inr (8, [.ref (B + 6), .int (zI ((m : Int) + 1))]))) 6 (iarr E 16 (va_up tr m 21)))) (up_at0).symm ?_
  refine x_st (st' := []) rfl ?_
  refine x_v (w := (va_up (va_up v 5 (.inr (8, [.ref (B + 6), .int (zI ((m : Int) + 1))]))) 6 (iarr E 16 (va_up tr m 21)))) (by first | rfl | (congr 5; omega)) ?_
  refine x_aload_n (pc := 6) 0 K rfl rfl dX0_mark_6 ?_
  refine x_aload_n (pc := 7) 1 K rfl rfl dX0_mark_7 ?_
  refine x_callSU (pc := 8) (C := RX0) (T := TX0) (n := 4) (ci := 0) (As := [.ref (B + 5)]) K (c_X6_mark_X0 (E := E) (B := B) (N := N) (m := (m + 1))  (cel_ne (cel_ne hc0 (by omega)) (by omega)) (cel_ne (cel_self hc1.1) (by decide)) (cel_self hc2.1) (by omega) (by omega)) gX0_mark_X6_mark_s22 rfl (na := 1) (by decide +kernel) rfl ⟨(Nat.le_of_ble_eq_true rfl), (Nat.le_of_ble_eq_true rfl)⟩ (cel_ne (cel_ne hc0 (by omega)) (by omega)) rfl (st := []) rfl (Nat.le_of_ble_eq_true rfl) ⟨(Nat.le_of_ble_eq_true rfl), (Nat.le_of_ble_eq_true rfl)⟩ dX0_mark_8 (fun r8 N8 w8 hpo8 hN8 => ?_)
  obtain ⟨rfl, rfl, rfl⟩ := hpo8
  refine x_v (congrArg (fun w => (va_up w 6 (iarr E 16 (va_up (va_up tr m 21) (m + 1) 20)))) (show (va_up (va_up v 5 (.inr (8, [.ref (B + 6), .int (zI (((m + 1) : Int) + 1))]))) 6 (iarr E 16 (va_up tr m 21))) = _ from (up_at1 (by decide)).symm)) ?_
  refine x_v (w := (va_up (va_up v 5 (.inr (8, [.ref (B + 6), .int (zI (((m + 1) : Int) + 1))]))) 6 (iarr E 16 (va_up (va_up tr m 21) (m + 1) 20)))) (up_at0).symm ?_
  refine x_st (st' := [.int (zI num)]) rfl ?_
  refine x_v (w := (va_up (va_up v 5 (.inr (8, [.ref (B + 6), .int (zI ((m : Int) + 2))]))) 6 (iarr E 16 (va_up (va_up tr m 21) (m + 1) 20)))) (by first | rfl | (congr 5; omega)) ?_
  refine x_aload_n (pc := 11) 0 K rfl rfl dX0_mark_11 ?_
  refine x_getI (pc := 12) (C := RX0) (T := TX0) (n := 4) (ci := 0) (idx := 23) (ref := "BorderBeds$Aunt") (x := .int (zI home))  K (cel_ne (cel_ne hc0 (by omega)) (by omega)) rfl (by decide +kernel) 2 (by decide) (by decide +kernel) (by decide +kernel) rfl dX0_mark_12 ?_
  refine x_iadd (pc := 15) K dX0_mark_15 ?_
  refine x_iret (pc := 16) K KR (by omega) (Nat.le_of_ble_eq_true rfl) (Nat.le_of_ble_eq_true rfl) dX0_mark_16 ?_
  exact ⟨rfl, rfl, rfl⟩

set_option maxRecDepth 100000 in
set_option maxHeartbeats 4000000 in
theorem c_X0_mark_X2 {E : XE} {B N : Nat} {v : Nat → va_E} {o : Nat} {num lnd home mil : Int} {m : Nat} {tr : Nat → Int} (hc0 : Cel N v o (.inr (2, [.int (zI num), .int (zI lnd), .int (zI home), .int (zI mil)]))) (hc1 : Cel N v 5 (.inr (8, [.ref (B + 6), .int (zI (m : Int))]))) (hc2 : Cel N v 6 (iarr E 16 tr)) (hq0 : m + 2 ≤ 16) (hq1 : o ≠ 5 ∧ o ≠ 6) : gM yX0_mark wsX0_mark ({ frames := 2, cells := 0, slots := 0, locals := 42 }) E B N v [.ref (B + o), .ref (B + 5)] (po0 N (fun ρ v' => ρ = some (.int (zI (num + home))) ∧ (va_up (va_up v 5 (.inr (8, [.ref (B + 6), .int (zI ((m : Int) + 2))]))) 6 (iarr E 16 (va_up (va_up tr m 21) (m + 1) 20))) = v')) := by
  refine x_met (nm := "mark") (by decide +kernel) rfl (Nat.le_of_ble_eq_true rfl) rfl (fun Γ K KR hnL hnm => ?_)
  show XW Γ N v [(0, .ref (B + o)), (1, .ref (B + 5))] 0 0 0 []
  have hco : ∀ k : Nat, (((m + k : Nat) : Int)) = (m : Int) + (k : Int) := fun k => by omega
  refine x_v (cel_pad hc1) ?_
  refine x_v (cel_pad (cel_ne hc2 (by decide))) ?_
  refine x_aload_n (pc := 0) 1 K rfl rfl dX0_mark_0 ?_
  refine x_bipush (pc := 1) K (by decide) dX0_mark_1 ?_
  refine x_callV (pc := 3) (C := RX9) (T := TX9) (n := 2) (ci := 8) (As := [.int (zI 21)]) K (c_X9_leave (E := E) (B := B) (N := N) (m := m)  (cel_ne (cel_self hc1.1) (by decide)) (cel_self hc2.1) (by omega)) gX0_mark_X9_leave rfl (na := 1) (by decide +kernel) rfl ⟨(Nat.le_of_ble_eq_true rfl), (Nat.le_of_ble_eq_true rfl)⟩ (cel_ne (cel_self hc1.1) (by decide)) rfl (st := []) rfl (Nat.le_of_ble_eq_true rfl) ⟨(Nat.le_of_ble_eq_true rfl), (Nat.le_of_ble_eq_true rfl)⟩ dX0_mark_3 (fun r3 N3 w3 hpo3 hN3 => ?_)
  obtain ⟨rfl, rfl, rfl⟩ := hpo3
  refine x_v (congrArg (fun w => (va_up w 6 (iarr E 16 (va_up tr m 21)))) (show (va_up (va_up v 5 (.inr (8, [.ref (B + 6), .int (zI ((m : Int) + 1))]))) 6 (iarr E 16 tr)) = _ from (up_at1 (by decide)).symm)) ?_
  refine x_v (w := (va_up (va_up v 5 (.inr (8, [.ref (B + 6), .int (zI ((m : Int) + 1))]))) 6 (iarr E 16 (va_up tr m 21)))) (up_at0).symm ?_
  refine x_st (st' := []) rfl ?_
  refine x_v (w := (va_up (va_up v 5 (.inr (8, [.ref (B + 6), .int (zI ((m : Int) + 1))]))) 6 (iarr E 16 (va_up tr m 21)))) (by first | rfl | (congr 5; omega)) ?_
  refine x_aload_n (pc := 6) 0 K rfl rfl dX0_mark_6 ?_
  refine x_aload_n (pc := 7) 1 K rfl rfl dX0_mark_7 ?_
  refine x_callSU (pc := 8) (C := RX2) (T := TX2) (n := 4) (ci := 2) (As := [.ref (B + 5)]) K (c_X6_mark_X2 (E := E) (B := B) (N := N) (m := (m + 1))  (cel_ne (cel_ne hc0 (by omega)) (by omega)) (cel_ne (cel_self hc1.1) (by decide)) (cel_self hc2.1) (by omega) (by omega)) gX0_mark_X6_mark_s22 rfl (na := 1) (by decide +kernel) rfl ⟨(Nat.le_of_ble_eq_true rfl), (Nat.le_of_ble_eq_true rfl)⟩ (cel_ne (cel_ne hc0 (by omega)) (by omega)) rfl (st := []) rfl (Nat.le_of_ble_eq_true rfl) ⟨(Nat.le_of_ble_eq_true rfl), (Nat.le_of_ble_eq_true rfl)⟩ dX0_mark_8 (fun r8 N8 w8 hpo8 hN8 => ?_)
  obtain ⟨rfl, rfl, rfl⟩ := hpo8
  refine x_v (congrArg (fun w => (va_up w 6 (iarr E 16 (va_up (va_up tr m 21) (m + 1) 20)))) (show (va_up (va_up v 5 (.inr (8, [.ref (B + 6), .int (zI (((m + 1) : Int) + 1))]))) 6 (iarr E 16 (va_up tr m 21))) = _ from (up_at1 (by decide)).symm)) ?_
  refine x_v (w := (va_up (va_up v 5 (.inr (8, [.ref (B + 6), .int (zI (((m + 1) : Int) + 1))]))) 6 (iarr E 16 (va_up (va_up tr m 21) (m + 1) 20)))) (up_at0).symm ?_
  refine x_st (st' := [.int (zI num)]) rfl ?_
  refine x_v (w := (va_up (va_up v 5 (.inr (8, [.ref (B + 6), .int (zI ((m : Int) + 2))]))) 6 (iarr E 16 (va_up (va_up tr m 21) (m + 1) 20)))) (by first | rfl | (congr 5; omega)) ?_
  refine x_aload_n (pc := 11) 0 K rfl rfl dX0_mark_11 ?_
  refine x_getI (pc := 12) (C := RX2) (T := TX2) (n := 4) (ci := 2) (idx := 23) (ref := "BorderBeds$Aunt") (x := .int (zI home))  K (cel_ne (cel_ne hc0 (by omega)) (by omega)) rfl (by decide +kernel) 2 (by decide) (by decide +kernel) (by decide +kernel) rfl dX0_mark_12 ?_
  refine x_iadd (pc := 15) K dX0_mark_15 ?_
  refine x_iret (pc := 16) K KR (by omega) (Nat.le_of_ble_eq_true rfl) (Nat.le_of_ble_eq_true rfl) dX0_mark_16 ?_
  exact ⟨rfl, rfl, rfl⟩

set_option maxRecDepth 100000 in
set_option maxHeartbeats 4000000 in
theorem c_X0_mark_X10 {E : XE} {B N : Nat} {v : Nat → va_E} {o : Nat} {num lnd home mil : Int} {m : Nat} {tr : Nat → Int} (hc0 : Cel N v o (.inr (9, [.int (zI num), .int (zI lnd), .int (zI home), .int (zI mil)]))) (hc1 : Cel N v 5 (.inr (8, [.ref (B + 6), .int (zI (m : Int))]))) (hc2 : Cel N v 6 (iarr E 16 tr)) (hq0 : m + 2 ≤ 16) (hq1 : o ≠ 5 ∧ o ≠ 6) : gM yX0_mark wsX0_mark ({ frames := 2, cells := 0, slots := 0, locals := 42 }) E B N v [.ref (B + o), .ref (B + 5)] (po0 N (fun ρ v' => ρ = some (.int (zI (num + home))) ∧ (va_up (va_up v 5 (.inr (8, [.ref (B + 6), .int (zI ((m : Int) + 2))]))) 6 (iarr E 16 (va_up (va_up tr m 21) (m + 1) 20))) = v')) := by
  refine x_met (nm := "mark") (by decide +kernel) rfl (Nat.le_of_ble_eq_true rfl) rfl (fun Γ K KR hnL hnm => ?_)
  show XW Γ N v [(0, .ref (B + o)), (1, .ref (B + 5))] 0 0 0 []
  have hco : ∀ k : Nat, (((m + k : Nat) : Int)) = (m : Int) + (k : Int) := fun k => by omega
  refine x_v (cel_pad hc1) ?_
  refine x_v (cel_pad (cel_ne hc2 (by decide))) ?_
  refine x_aload_n (pc := 0) 1 K rfl rfl dX0_mark_0 ?_
  refine x_bipush (pc := 1) K (by decide) dX0_mark_1 ?_
  refine x_callV (pc := 3) (C := RX9) (T := TX9) (n := 2) (ci := 8) (As := [.int (zI 21)]) K (c_X9_leave (E := E) (B := B) (N := N) (m := m)  (cel_ne (cel_self hc1.1) (by decide)) (cel_self hc2.1) (by omega)) gX0_mark_X9_leave rfl (na := 1) (by decide +kernel) rfl ⟨(Nat.le_of_ble_eq_true rfl), (Nat.le_of_ble_eq_true rfl)⟩ (cel_ne (cel_self hc1.1) (by decide)) rfl (st := []) rfl (Nat.le_of_ble_eq_true rfl) ⟨(Nat.le_of_ble_eq_true rfl), (Nat.le_of_ble_eq_true rfl)⟩ dX0_mark_3 (fun r3 N3 w3 hpo3 hN3 => ?_)
  obtain ⟨rfl, rfl, rfl⟩ := hpo3
  refine x_v (congrArg (fun w => (va_up w 6 (iarr E 16 (va_up tr m 21)))) (show (va_up (va_up v 5 (.inr (8, [.ref (B + 6), .int (zI ((m : Int) + 1))]))) 6 (iarr E 16 tr)) = _ from (up_at1 (by decide)).symm)) ?_
  refine x_v (w := (va_up (va_up v 5 (.inr (8, [.ref (B + 6), .int (zI ((m : Int) + 1))]))) 6 (iarr E 16 (va_up tr m 21)))) (up_at0).symm ?_
  refine x_st (st' := []) rfl ?_
  refine x_v (w := (va_up (va_up v 5 (.inr (8, [.ref (B + 6), .int (zI ((m : Int) + 1))]))) 6 (iarr E 16 (va_up tr m 21)))) (by first | rfl | (congr 5; omega)) ?_
  refine x_aload_n (pc := 6) 0 K rfl rfl dX0_mark_6 ?_
  refine x_aload_n (pc := 7) 1 K rfl rfl dX0_mark_7 ?_
  refine x_callSU (pc := 8) (C := RX10) (T := TX10) (n := 4) (ci := 9) (As := [.ref (B + 5)]) K (c_X6_mark_X10 (E := E) (B := B) (N := N) (m := (m + 1))  (cel_ne (cel_ne hc0 (by omega)) (by omega)) (cel_ne (cel_self hc1.1) (by decide)) (cel_self hc2.1) (by omega) (by omega)) gX0_mark_X6_mark_s22 rfl (na := 1) (by decide +kernel) rfl ⟨(Nat.le_of_ble_eq_true rfl), (Nat.le_of_ble_eq_true rfl)⟩ (cel_ne (cel_ne hc0 (by omega)) (by omega)) rfl (st := []) rfl (Nat.le_of_ble_eq_true rfl) ⟨(Nat.le_of_ble_eq_true rfl), (Nat.le_of_ble_eq_true rfl)⟩ dX0_mark_8 (fun r8 N8 w8 hpo8 hN8 => ?_)
  obtain ⟨rfl, rfl, rfl⟩ := hpo8
  refine x_v (congrArg (fun w => (va_up w 6 (iarr E 16 (va_up (va_up tr m 21) (m + 1) 20)))) (show (va_up (va_up v 5 (.inr (8, [.ref (B + 6), .int (zI (((m + 1) : Int) + 1))]))) 6 (iarr E 16 (va_up tr m 21))) = _ from (up_at1 (by decide)).symm)) ?_
  refine x_v (w := (va_up (va_up v 5 (.inr (8, [.ref (B + 6), .int (zI (((m + 1) : Int) + 1))]))) 6 (iarr E 16 (va_up (va_up tr m 21) (m + 1) 20)))) (up_at0).symm ?_
  refine x_st (st' := [.int (zI num)]) rfl ?_
  refine x_v (w := (va_up (va_up v 5 (.inr (8, [.ref (B + 6), .int (zI ((m : Int) + 2))]))) 6 (iarr E 16 (va_up (va_up tr m 21) (m + 1) 20)))) (by first | rfl | (congr 5; omega)) ?_
  refine x_aload_n (pc := 11) 0 K rfl rfl dX0_mark_11 ?_
  refine x_getI (pc := 12) (C := RX10) (T := TX10) (n := 4) (ci := 9) (idx := 23) (ref := "BorderBeds$Aunt") (x := .int (zI home))  K (cel_ne (cel_ne hc0 (by omega)) (by omega)) rfl (by decide +kernel) 2 (by decide) (by decide +kernel) (by decide +kernel) rfl dX0_mark_12 ?_
  refine x_iadd (pc := 15) K dX0_mark_15 ?_
  refine x_iret (pc := 16) K KR (by omega) (Nat.le_of_ble_eq_true rfl) (Nat.le_of_ble_eq_true rfl) dX0_mark_16 ?_
  exact ⟨rfl, rfl, rfl⟩

set_option maxRecDepth 100000 in
set_option maxHeartbeats 4000000 in
theorem c_X2_mark_X2 {E : XE} {B N : Nat} {v : Nat → va_E} {o : Nat} {num lnd home mil : Int} {m : Nat} {tr : Nat → Int} (hc0 : Cel N v o (.inr (2, [.int (zI num), .int (zI lnd), .int (zI home), .int (zI mil)]))) (hc1 : Cel N v 5 (.inr (8, [.ref (B + 6), .int (zI (m : Int))]))) (hc2 : Cel N v 6 (iarr E 16 tr)) (hq0 : m + 3 ≤ 16) (hq1 : o ≠ 5 ∧ o ≠ 6) : gM yX2_mark wsX2_mark ({ frames := 3, cells := 0, slots := 0, locals := 63 }) E B N v [.ref (B + o), .ref (B + 5)] (po0 N (fun ρ v' => ρ = some (.int (zI (2 * (num + home)))) ∧ (va_up (va_up v 5 (.inr (8, [.ref (B + 6), .int (zI ((m : Int) + 3))]))) 6 (iarr E 16 (va_up (va_up (va_up tr m 24) (m + 1) 21) (m + 2) 20))) = v')) := by
  refine x_met (nm := "mark") (by decide +kernel) rfl (Nat.le_of_ble_eq_true rfl) rfl (fun Γ K KR hnL hnm => ?_)
  show XW Γ N v [(0, .ref (B + o)), (1, .ref (B + 5))] 0 0 0 []
  have hco : ∀ k : Nat, (((m + k : Nat) : Int)) = (m : Int) + (k : Int) := fun k => by omega
  refine x_v (cel_pad hc1) ?_
  refine x_v (cel_pad (cel_ne hc2 (by decide))) ?_
  refine x_aload_n (pc := 0) 1 K rfl rfl dX2_mark_0 ?_
  refine x_bipush (pc := 1) K (by decide) dX2_mark_1 ?_
  refine x_callV (pc := 3) (C := RX9) (T := TX9) (n := 2) (ci := 8) (As := [.int (zI 24)]) K (c_X9_leave (E := E) (B := B) (N := N) (m := m)  (cel_ne (cel_self hc1.1) (by decide)) (cel_self hc2.1) (by omega)) gX2_mark_X9_leave rfl (na := 1) (by decide +kernel) rfl ⟨(Nat.le_of_ble_eq_true rfl), (Nat.le_of_ble_eq_true rfl)⟩ (cel_ne (cel_self hc1.1) (by decide)) rfl (st := []) rfl (Nat.le_of_ble_eq_true rfl) ⟨(Nat.le_of_ble_eq_true rfl), (Nat.le_of_ble_eq_true rfl)⟩ dX2_mark_3 (fun r3 N3 w3 hpo3 hN3 => ?_)
  obtain ⟨rfl, rfl, rfl⟩ := hpo3
  refine x_v (congrArg (fun w => (va_up w 6 (iarr E 16 (va_up tr m 24)))) (show (va_up (va_up v 5 (.inr (8, [.ref (B + 6), .int (zI ((m : Int) + 1))]))) 6 (iarr E 16 tr)) = _ from (up_at1 (by decide)).symm)) ?_
  refine x_v (w := (va_up (va_up v 5 (.inr (8, [.ref (B + 6), .int (zI ((m : Int) + 1))]))) 6 (iarr E 16 (va_up tr m 24)))) (up_at0).symm ?_
  refine x_st (st' := []) rfl ?_
  refine x_v (w := (va_up (va_up v 5 (.inr (8, [.ref (B + 6), .int (zI ((m : Int) + 1))]))) 6 (iarr E 16 (va_up tr m 24)))) (by first | rfl | (congr 5; omega)) ?_
  refine x_iconst (pc := 6) K dX2_mark_6 ?_
  refine x_aload_n (pc := 7) 0 K rfl rfl dX2_mark_7 ?_
  refine x_aload_n (pc := 8) 1 K rfl rfl dX2_mark_8 ?_
  refine x_callSU (pc := 9) (C := RX2) (T := TX2) (n := 4) (ci := 2) (As := [.ref (B + 5)]) K (c_X0_mark_X2 (E := E) (B := B) (N := N) (m := (m + 1))  (cel_ne (cel_ne hc0 (by omega)) (by omega)) (cel_ne (cel_self hc1.1) (by decide)) (cel_self hc2.1) (by omega) (by omega)) gX2_mark_X0_mark_s23 rfl (na := 1) (by decide +kernel) rfl ⟨(Nat.le_of_ble_eq_true rfl), (Nat.le_of_ble_eq_true rfl)⟩ (cel_ne (cel_ne hc0 (by omega)) (by omega)) rfl (st := [.int (zI 2)]) rfl (Nat.le_of_ble_eq_true rfl) ⟨(Nat.le_of_ble_eq_true rfl), (Nat.le_of_ble_eq_true rfl)⟩ dX2_mark_9 (fun r9 N9 w9 hpo9 hN9 => ?_)
  obtain ⟨rfl, rfl, rfl⟩ := hpo9
  refine x_v (congrArg (fun w => (va_up w 6 (iarr E 16 (va_up (va_up (va_up tr m 24) (m + 1) 21) ((m + 1) + 1) 20)))) (show (va_up (va_up v 5 (.inr (8, [.ref (B + 6), .int (zI (((m + 1) : Int) + 2))]))) 6 (iarr E 16 (va_up tr m 24))) = _ from (up_at1 (by decide)).symm)) ?_
  refine x_v (w := (va_up (va_up v 5 (.inr (8, [.ref (B + 6), .int (zI (((m + 1) : Int) + 2))]))) 6 (iarr E 16 (va_up (va_up (va_up tr m 24) (m + 1) 21) ((m + 1) + 1) 20)))) (up_at0).symm ?_
  refine x_st (st' := [.int (zI (num + home)), .int (zI 2)]) rfl ?_
  refine x_v (w := (va_up (va_up v 5 (.inr (8, [.ref (B + 6), .int (zI ((m : Int) + 3))]))) 6 (iarr E 16 (va_up (va_up (va_up tr m 24) (m + 1) 21) ((m + 1) + 1) 20)))) (by first | rfl | (congr 5; omega)) ?_
  refine x_imul (pc := 12) K dX2_mark_12 ?_
  refine x_iret (pc := 13) K KR (by omega) (Nat.le_of_ble_eq_true rfl) (Nat.le_of_ble_eq_true rfl) dX2_mark_13 ?_
  exact ⟨rfl, rfl, rfl⟩

set_option maxRecDepth 100000 in
set_option maxHeartbeats 4000000 in
theorem c_X10_mark_X10 {E : XE} {B N : Nat} {v : Nat → va_E} {o : Nat} {num lnd home mil : Int} {m : Nat} {tr : Nat → Int} (hc0 : Cel N v o (.inr (9, [.int (zI num), .int (zI lnd), .int (zI home), .int (zI mil)]))) (hc1 : Cel N v 5 (.inr (8, [.ref (B + 6), .int (zI (m : Int))]))) (hc2 : Cel N v 6 (iarr E 16 tr)) (hq0 : m + 3 ≤ 16) (hq1 : o ≠ 5 ∧ o ≠ 6) : gM yX10_mark wsX10_mark ({ frames := 3, cells := 0, slots := 0, locals := 63 }) E B N v [.ref (B + o), .ref (B + 5)] (po0 N (fun ρ v' => ρ = some (.int (zI ((num + home) - 1000))) ∧ (va_up (va_up v 5 (.inr (8, [.ref (B + 6), .int (zI ((m : Int) + 3))]))) 6 (iarr E 16 (va_up (va_up (va_up tr m 22) (m + 1) 21) (m + 2) 20))) = v')) := by
  refine x_met (nm := "mark") (by decide +kernel) rfl (Nat.le_of_ble_eq_true rfl) rfl (fun Γ K KR hnL hnm => ?_)
  show XW Γ N v [(0, .ref (B + o)), (1, .ref (B + 5))] 0 0 0 []
  have hco : ∀ k : Nat, (((m + k : Nat) : Int)) = (m : Int) + (k : Int) := fun k => by omega
  refine x_v (cel_pad hc1) ?_
  refine x_v (cel_pad (cel_ne hc2 (by decide))) ?_
  refine x_aload_n (pc := 0) 1 K rfl rfl dX10_mark_0 ?_
  refine x_bipush (pc := 1) K (by decide) dX10_mark_1 ?_
  refine x_callV (pc := 3) (C := RX9) (T := TX9) (n := 2) (ci := 8) (As := [.int (zI 22)]) K (c_X9_leave (E := E) (B := B) (N := N) (m := m)  (cel_ne (cel_self hc1.1) (by decide)) (cel_self hc2.1) (by omega)) gX10_mark_X9_leave rfl (na := 1) (by decide +kernel) rfl ⟨(Nat.le_of_ble_eq_true rfl), (Nat.le_of_ble_eq_true rfl)⟩ (cel_ne (cel_self hc1.1) (by decide)) rfl (st := []) rfl (Nat.le_of_ble_eq_true rfl) ⟨(Nat.le_of_ble_eq_true rfl), (Nat.le_of_ble_eq_true rfl)⟩ dX10_mark_3 (fun r3 N3 w3 hpo3 hN3 => ?_)
  obtain ⟨rfl, rfl, rfl⟩ := hpo3
  refine x_v (congrArg (fun w => (va_up w 6 (iarr E 16 (va_up tr m 22)))) (show (va_up (va_up v 5 (.inr (8, [.ref (B + 6), .int (zI ((m : Int) + 1))]))) 6 (iarr E 16 tr)) = _ from (up_at1 (by decide)).symm)) ?_
  refine x_v (w := (va_up (va_up v 5 (.inr (8, [.ref (B + 6), .int (zI ((m : Int) + 1))]))) 6 (iarr E 16 (va_up tr m 22)))) (up_at0).symm ?_
  refine x_st (st' := []) rfl ?_
  refine x_v (w := (va_up (va_up v 5 (.inr (8, [.ref (B + 6), .int (zI ((m : Int) + 1))]))) 6 (iarr E 16 (va_up tr m 22)))) (by first | rfl | (congr 5; omega)) ?_
  refine x_aload_n (pc := 6) 0 K rfl rfl dX10_mark_6 ?_
  refine x_aload_n (pc := 7) 1 K rfl rfl dX10_mark_7 ?_
  refine x_callSU (pc := 8) (C := RX10) (T := TX10) (n := 4) (ci := 9) (As := [.ref (B + 5)]) K (c_X0_mark_X10 (E := E) (B := B) (N := N) (m := (m + 1))  (cel_ne (cel_ne hc0 (by omega)) (by omega)) (cel_ne (cel_self hc1.1) (by decide)) (cel_self hc2.1) (by omega) (by omega)) gX10_mark_X0_mark_s15 rfl (na := 1) (by decide +kernel) rfl ⟨(Nat.le_of_ble_eq_true rfl), (Nat.le_of_ble_eq_true rfl)⟩ (cel_ne (cel_ne hc0 (by omega)) (by omega)) rfl (st := []) rfl (Nat.le_of_ble_eq_true rfl) ⟨(Nat.le_of_ble_eq_true rfl), (Nat.le_of_ble_eq_true rfl)⟩ dX10_mark_8 (fun r8 N8 w8 hpo8 hN8 => ?_)
  obtain ⟨rfl, rfl, rfl⟩ := hpo8
  refine x_v (congrArg (fun w => (va_up w 6 (iarr E 16 (va_up (va_up (va_up tr m 22) (m + 1) 21) ((m + 1) + 1) 20)))) (show (va_up (va_up v 5 (.inr (8, [.ref (B + 6), .int (zI (((m + 1) : Int) + 2))]))) 6 (iarr E 16 (va_up tr m 22))) = _ from (up_at1 (by decide)).symm)) ?_
  refine x_v (w := (va_up (va_up v 5 (.inr (8, [.ref (B + 6), .int (zI (((m + 1) : Int) + 2))]))) 6 (iarr E 16 (va_up (va_up (va_up tr m 22) (m + 1) 21) ((m + 1) + 1) 20)))) (up_at0).symm ?_
  refine x_st (st' := [.int (zI (num + home))]) rfl ?_
  refine x_v (w := (va_up (va_up v 5 (.inr (8, [.ref (B + 6), .int (zI ((m : Int) + 3))]))) 6 (iarr E 16 (va_up (va_up (va_up tr m 22) (m + 1) 21) ((m + 1) + 1) 20)))) (by first | rfl | (congr 5; omega)) ?_
  refine x_sipush (pc := 11) K (by decide) dX10_mark_11 ?_
  refine x_isub (pc := 14) K dX10_mark_14 ?_
  refine x_iret (pc := 15) K KR (by omega) (Nat.le_of_ble_eq_true rfl) (Nat.le_of_ble_eq_true rfl) dX10_mark_15 ?_
  exact ⟨rfl, rfl, rfl⟩

set_option maxRecDepth 100000 in
set_option maxHeartbeats 4000000 in
theorem c_X0_size_X0 {E : XE} {B N : Nat} {v : Nat → va_E} {o : Nat} {num lnd home mil : Int} {m : Nat} {tr : Nat → Int} (hc0 : Cel N v o (.inr (0, [.int (zI num), .int (zI lnd), .int (zI home), .int (zI mil)]))) (hc1 : Cel N v 5 (.inr (8, [.ref (B + 6), .int (zI (m : Int))]))) (hc2 : Cel N v 6 (iarr E 16 tr)) (hq0 : m + 4 ≤ 16) (hq1 : o ≠ 5 ∧ o ≠ 6) : gM yX0_size wsX0_size ({ frames := 4, cells := 0, slots := 0, locals := 84 }) E B N v [.ref (B + o), .ref (B + 5)] (po0 N (fun ρ v' => ρ = some (.int (zI (mil + (num + home)))) ∧ (va_up (va_up v 5 (.inr (8, [.ref (B + 6), .int (zI ((m : Int) + 4))]))) 6 (iarr E 16 (va_up (va_up (va_up (va_up tr m 11) (m + 1) 10) (m + 2) 21) (m + 3) 20))) = v')) := by
  refine x_met (nm := "size") (by decide +kernel) rfl (Nat.le_of_ble_eq_true rfl) rfl (fun Γ K KR hnL hnm => ?_)
  show XW Γ N v [(0, .ref (B + o)), (1, .ref (B + 5))] 0 0 0 []
  have hco : ∀ k : Nat, (((m + k : Nat) : Int)) = (m : Int) + (k : Int) := fun k => by omega
  refine x_v (cel_pad hc1) ?_
  refine x_v (cel_pad (cel_ne hc2 (by decide))) ?_
  refine x_aload_n (pc := 0) 1 K rfl rfl dX0_size_0 ?_
  refine x_bipush (pc := 1) K (by decide) dX0_size_1 ?_
  refine x_callV (pc := 3) (C := RX9) (T := TX9) (n := 2) (ci := 8) (As := [.int (zI 11)]) K (c_X9_leave (E := E) (B := B) (N := N) (m := m)  (cel_ne (cel_self hc1.1) (by decide)) (cel_self hc2.1) (by omega)) gX0_size_X9_leave rfl (na := 1) (by decide +kernel) rfl ⟨(Nat.le_of_ble_eq_true rfl), (Nat.le_of_ble_eq_true rfl)⟩ (cel_ne (cel_self hc1.1) (by decide)) rfl (st := []) rfl (Nat.le_of_ble_eq_true rfl) ⟨(Nat.le_of_ble_eq_true rfl), (Nat.le_of_ble_eq_true rfl)⟩ dX0_size_3 (fun r3 N3 w3 hpo3 hN3 => ?_)
  obtain ⟨rfl, rfl, rfl⟩ := hpo3
  refine x_v (congrArg (fun w => (va_up w 6 (iarr E 16 (va_up tr m 11)))) (show (va_up (va_up v 5 (.inr (8, [.ref (B + 6), .int (zI ((m : Int) + 1))]))) 6 (iarr E 16 tr)) = _ from (up_at1 (by decide)).symm)) ?_
  refine x_v (w := (va_up (va_up v 5 (.inr (8, [.ref (B + 6), .int (zI ((m : Int) + 1))]))) 6 (iarr E 16 (va_up tr m 11)))) (up_at0).symm ?_
  refine x_st (st' := []) rfl ?_
  refine x_v (w := (va_up (va_up v 5 (.inr (8, [.ref (B + 6), .int (zI ((m : Int) + 1))]))) 6 (iarr E 16 (va_up tr m 11)))) (by first | rfl | (congr 5; omega)) ?_
  refine x_aload_n (pc := 6) 0 K rfl rfl dX0_size_6 ?_
  refine x_aload_n (pc := 7) 1 K rfl rfl dX0_size_7 ?_
  refine x_callSU (pc := 8) (C := RX0) (T := TX0) (n := 4) (ci := 0) (As := [.ref (B + 5)]) K (c_X6_size_X0 (E := E) (B := B) (N := N) (m := (m + 1))  (cel_ne (cel_ne hc0 (by omega)) (by omega)) (cel_ne (cel_self hc1.1) (by decide)) (cel_self hc2.1) (by omega) (by omega)) gX0_size_X6_size_s15 rfl (na := 1) (by decide +kernel) rfl ⟨(Nat.le_of_ble_eq_true rfl), (Nat.le_of_ble_eq_true rfl)⟩ (cel_ne (cel_ne hc0 (by omega)) (by omega)) rfl (st := []) rfl (Nat.le_of_ble_eq_true rfl) ⟨(Nat.le_of_ble_eq_true rfl), (Nat.le_of_ble_eq_true rfl)⟩ dX0_size_8 (fun r8 N8 w8 hpo8 hN8 => ?_)
  obtain ⟨rfl, rfl, rfl⟩ := hpo8
  refine x_v (congrArg (fun w => (va_up w 6 (iarr E 16 (va_up (va_up tr m 11) (m + 1) 10)))) (show (va_up (va_up v 5 (.inr (8, [.ref (B + 6), .int (zI (((m + 1) : Int) + 1))]))) 6 (iarr E 16 (va_up tr m 11))) = _ from (up_at1 (by decide)).symm)) ?_
  refine x_v (w := (va_up (va_up v 5 (.inr (8, [.ref (B + 6), .int (zI (((m + 1) : Int) + 1))]))) 6 (iarr E 16 (va_up (va_up tr m 11) (m + 1) 10)))) (up_at0).symm ?_
  refine x_st (st' := [.int (zI mil)]) rfl ?_
  refine x_v (w := (va_up (va_up v 5 (.inr (8, [.ref (B + 6), .int (zI ((m : Int) + 2))]))) 6 (iarr E 16 (va_up (va_up tr m 11) (m + 1) 10)))) (by first | rfl | (congr 5; omega)) ?_
  refine x_istore_n (pc := 11) K (L' := [(2, .int (zI mil)), (0, .ref (B + o)), (1, .ref (B + 5))]) hnL rfl (by decide) rfl dX0_size_11 ?_
  refine x_iload_n (pc := 12) 0 K rfl rfl dX0_size_12 ?_
  refine x_aload_n (pc := 13) 1 K rfl rfl dX0_size_13 ?_
  refine x_aload_n (pc := 14) 2 K rfl rfl dX0_size_14 ?_
  refine x_callV (pc := 15) (C := RX0) (T := TX0) (n := 4) (ci := 0) (As := [.ref (B + 5)]) K (c_X0_mark_X0 (E := E) (B := B) (N := N) (m := (m + 2))  (cel_ne (cel_ne hc0 (by omega)) (by omega)) (cel_ne (cel_self hc1.1) (by decide)) (cel_self hc2.1) (by omega) (by omega)) gX0_size_X0_mark rfl (na := 1) (by decide +kernel) rfl ⟨(Nat.le_of_ble_eq_true rfl), (Nat.le_of_ble_eq_true rfl)⟩ (cel_ne (cel_ne hc0 (by omega)) (by omega)) rfl (st := [.int (zI mil)]) rfl (Nat.le_of_ble_eq_true rfl) ⟨(Nat.le_of_ble_eq_true rfl), (Nat.le_of_ble_eq_true rfl)⟩ dX0_size_15 (fun r15 N15 w15 hpo15 hN15 => ?_)
  obtain ⟨rfl, rfl, rfl⟩ := hpo15
  refine x_v (congrArg (fun w => (va_up w 6 (iarr E 16 (va_up (va_up (va_up (va_up tr m 11) (m + 1) 10) (m + 2) 21) ((m + 2) + 1) 20)))) (show (va_up (va_up v 5 (.inr (8, [.ref (B + 6), .int (zI (((m + 2) : Int) + 2))]))) 6 (iarr E 16 (va_up (va_up tr m 11) (m + 1) 10))) = _ from (up_at1 (by decide)).symm)) ?_
  refine x_v (w := (va_up (va_up v 5 (.inr (8, [.ref (B + 6), .int (zI (((m + 2) : Int) + 2))]))) 6 (iarr E 16 (va_up (va_up (va_up (va_up tr m 11) (m + 1) 10) (m + 2) 21) ((m + 2) + 1) 20)))) (up_at0).symm ?_
  refine x_st (st' := [.int (zI (num + home)), .int (zI mil)]) rfl ?_
  refine x_v (w := (va_up (va_up v 5 (.inr (8, [.ref (B + 6), .int (zI ((m : Int) + 4))]))) 6 (iarr E 16 (va_up (va_up (va_up (va_up tr m 11) (m + 1) 10) (m + 2) 21) ((m + 2) + 1) 20)))) (by first | rfl | (congr 5; omega)) ?_
  refine x_iadd (pc := 18) K dX0_size_18 ?_
  refine x_iret (pc := 19) K KR (by omega) (Nat.le_of_ble_eq_true rfl) (Nat.le_of_ble_eq_true rfl) dX0_size_19 ?_
  exact ⟨rfl, rfl, rfl⟩

set_option maxRecDepth 100000 in
set_option maxHeartbeats 4000000 in
theorem c_X0_size_X2 {E : XE} {B N : Nat} {v : Nat → va_E} {o : Nat} {num lnd home mil : Int} {m : Nat} {tr : Nat → Int} (hc0 : Cel N v o (.inr (2, [.int (zI num), .int (zI lnd), .int (zI home), .int (zI mil)]))) (hc1 : Cel N v 5 (.inr (8, [.ref (B + 6), .int (zI (m : Int))]))) (hc2 : Cel N v 6 (iarr E 16 tr)) (hq0 : m + 5 ≤ 16) (hq1 : o ≠ 5 ∧ o ≠ 6) : gM yX0_size wsX0_size ({ frames := 4, cells := 0, slots := 0, locals := 84 }) E B N v [.ref (B + o), .ref (B + 5)] (po0 N (fun ρ v' => ρ = some (.int (zI (mil + (2 * (num + home))))) ∧ (va_up (va_up v 5 (.inr (8, [.ref (B + 6), .int (zI ((m : Int) + 5))]))) 6 (iarr E 16 (va_up (va_up (va_up (va_up (va_up tr m 11) (m + 1) 10) (m + 2) 24) (m + 3) 21) (m + 4) 20))) = v')) := by
  refine x_met (nm := "size") (by decide +kernel) rfl (Nat.le_of_ble_eq_true rfl) rfl (fun Γ K KR hnL hnm => ?_)
  show XW Γ N v [(0, .ref (B + o)), (1, .ref (B + 5))] 0 0 0 []
  have hco : ∀ k : Nat, (((m + k : Nat) : Int)) = (m : Int) + (k : Int) := fun k => by omega
  refine x_v (cel_pad hc1) ?_
  refine x_v (cel_pad (cel_ne hc2 (by decide))) ?_
  refine x_aload_n (pc := 0) 1 K rfl rfl dX0_size_0 ?_
  refine x_bipush (pc := 1) K (by decide) dX0_size_1 ?_
  refine x_callV (pc := 3) (C := RX9) (T := TX9) (n := 2) (ci := 8) (As := [.int (zI 11)]) K (c_X9_leave (E := E) (B := B) (N := N) (m := m)  (cel_ne (cel_self hc1.1) (by decide)) (cel_self hc2.1) (by omega)) gX0_size_X9_leave rfl (na := 1) (by decide +kernel) rfl ⟨(Nat.le_of_ble_eq_true rfl), (Nat.le_of_ble_eq_true rfl)⟩ (cel_ne (cel_self hc1.1) (by decide)) rfl (st := []) rfl (Nat.le_of_ble_eq_true rfl) ⟨(Nat.le_of_ble_eq_true rfl), (Nat.le_of_ble_eq_true rfl)⟩ dX0_size_3 (fun r3 N3 w3 hpo3 hN3 => ?_)
  obtain ⟨rfl, rfl, rfl⟩ := hpo3
  refine x_v (congrArg (fun w => (va_up w 6 (iarr E 16 (va_up tr m 11)))) (show (va_up (va_up v 5 (.inr (8, [.ref (B + 6), .int (zI ((m : Int) + 1))]))) 6 (iarr E 16 tr)) = _ from (up_at1 (by decide)).symm)) ?_
  refine x_v (w := (va_up (va_up v 5 (.inr (8, [.ref (B + 6), .int (zI ((m : Int) + 1))]))) 6 (iarr E 16 (va_up tr m 11)))) (up_at0).symm ?_
  refine x_st (st' := []) rfl ?_
  refine x_v (w := (va_up (va_up v 5 (.inr (8, [.ref (B + 6), .int (zI ((m : Int) + 1))]))) 6 (iarr E 16 (va_up tr m 11)))) (by first | rfl | (congr 5; omega)) ?_
  refine x_aload_n (pc := 6) 0 K rfl rfl dX0_size_6 ?_
  refine x_aload_n (pc := 7) 1 K rfl rfl dX0_size_7 ?_
  refine x_callSU (pc := 8) (C := RX2) (T := TX2) (n := 4) (ci := 2) (As := [.ref (B + 5)]) K (c_X6_size_X2 (E := E) (B := B) (N := N) (m := (m + 1))  (cel_ne (cel_ne hc0 (by omega)) (by omega)) (cel_ne (cel_self hc1.1) (by decide)) (cel_self hc2.1) (by omega) (by omega)) gX0_size_X6_size_s15 rfl (na := 1) (by decide +kernel) rfl ⟨(Nat.le_of_ble_eq_true rfl), (Nat.le_of_ble_eq_true rfl)⟩ (cel_ne (cel_ne hc0 (by omega)) (by omega)) rfl (st := []) rfl (Nat.le_of_ble_eq_true rfl) ⟨(Nat.le_of_ble_eq_true rfl), (Nat.le_of_ble_eq_true rfl)⟩ dX0_size_8 (fun r8 N8 w8 hpo8 hN8 => ?_)
  obtain ⟨rfl, rfl, rfl⟩ := hpo8
  refine x_v (congrArg (fun w => (va_up w 6 (iarr E 16 (va_up (va_up tr m 11) (m + 1) 10)))) (show (va_up (va_up v 5 (.inr (8, [.ref (B + 6), .int (zI (((m + 1) : Int) + 1))]))) 6 (iarr E 16 (va_up tr m 11))) = _ from (up_at1 (by decide)).symm)) ?_
  refine x_v (w := (va_up (va_up v 5 (.inr (8, [.ref (B + 6), .int (zI (((m + 1) : Int) + 1))]))) 6 (iarr E 16 (va_up (va_up tr m 11) (m + 1) 10)))) (up_at0).symm ?_
  refine x_st (st' := [.int (zI mil)]) rfl ?_
  refine x_v (w := (va_up (va_up v 5 (.inr (8, [.ref (B + 6), .int (zI ((m : Int) + 2))]))) 6 (iarr E 16 (va_up (va_up tr m 11) (m + 1) 10)))) (by first | rfl | (congr 5; omega)) ?_
  refine x_istore_n (pc := 11) K (L' := [(2, .int (zI mil)), (0, .ref (B + o)), (1, .ref (B + 5))]) hnL rfl (by decide) rfl dX0_size_11 ?_
  refine x_iload_n (pc := 12) 0 K rfl rfl dX0_size_12 ?_
  refine x_aload_n (pc := 13) 1 K rfl rfl dX0_size_13 ?_
  refine x_aload_n (pc := 14) 2 K rfl rfl dX0_size_14 ?_
  refine x_callO (pc := 15) (C := RX2) (T := TX2) (n := 4) (ci := 2) (As := [.ref (B + 5)]) (owner := "BorderBeds$Aunt") (x := ⟨"BorderBeds$Aunt", "mark", "(LBorderBeds$Trace;)I"⟩) (b0 := cX0_mark) (m0 := 2) (r0 := (some .int)) K (c_X2_mark_X2 (E := E) (B := B) (N := N) (m := (m + 2))  (cel_ne (cel_ne hc0 (by omega)) (by omega)) (cel_ne (cel_self hc1.1) (by decide)) (cel_self hc2.1) (by omega) (by omega)) gX0_size_X2_mark_u19X2 rfl (by decide +kernel) (na := 1) (by decide +kernel) rfl ⟨(Nat.le_of_ble_eq_true rfl), (Nat.le_of_ble_eq_true rfl)⟩ (cel_ne (cel_ne hc0 (by omega)) (by omega)) rfl (st := [.int (zI mil)]) rfl (Nat.le_of_ble_eq_true rfl) ⟨(Nat.le_of_ble_eq_true rfl), (Nat.le_of_ble_eq_true rfl)⟩ dX0_size_15 (fun r15 N15 w15 hpo15 hN15 => ?_)
  obtain ⟨rfl, rfl, rfl⟩ := hpo15
  refine x_v (congrArg (fun w => (va_up w 6 (iarr E 16 (va_up (va_up (va_up (va_up (va_up tr m 11) (m + 1) 10) (m + 2) 24) ((m + 2) + 1) 21) ((m + 2) + 2) 20)))) (show (va_up (va_up v 5 (.inr (8, [.ref (B + 6), .int (zI (((m + 2) : Int) + 3))]))) 6 (iarr E 16 (va_up (va_up tr m 11) (m + 1) 10))) = _ from (up_at1 (by decide)).symm)) ?_
  refine x_v (w := (va_up (va_up v 5 (.inr (8, [.ref (B + 6), .int (zI (((m + 2) : Int) + 3))]))) 6 (iarr E 16 (va_up (va_up (va_up (va_up (va_up tr m 11) (m + 1) 10) (m + 2) 24) ((m + 2) + 1) 21) ((m + 2) + 2) 20)))) (up_at0).symm ?_
  refine x_st (st' := [.int (zI (2 * (num + home))), .int (zI mil)]) rfl ?_
  refine x_v (w := (va_up (va_up v 5 (.inr (8, [.ref (B + 6), .int (zI ((m : Int) + 5))]))) 6 (iarr E 16 (va_up (va_up (va_up (va_up (va_up tr m 11) (m + 1) 10) (m + 2) 24) ((m + 2) + 1) 21) ((m + 2) + 2) 20)))) (by first | rfl | (congr 5; omega)) ?_
  refine x_iadd (pc := 18) K dX0_size_18 ?_
  refine x_iret (pc := 19) K KR (by omega) (Nat.le_of_ble_eq_true rfl) (Nat.le_of_ble_eq_true rfl) dX0_size_19 ?_
  exact ⟨rfl, rfl, rfl⟩

set_option maxRecDepth 100000 in
set_option maxHeartbeats 4000000 in
theorem c_X0_size_X10 {E : XE} {B N : Nat} {v : Nat → va_E} {o : Nat} {num lnd home mil : Int} {m : Nat} {tr : Nat → Int} (hc0 : Cel N v o (.inr (9, [.int (zI num), .int (zI lnd), .int (zI home), .int (zI mil)]))) (hc1 : Cel N v 5 (.inr (8, [.ref (B + 6), .int (zI (m : Int))]))) (hc2 : Cel N v 6 (iarr E 16 tr)) (hq0 : m + 5 ≤ 16) (hq1 : o ≠ 5 ∧ o ≠ 6) : gM yX0_size wsX0_size ({ frames := 4, cells := 0, slots := 0, locals := 84 }) E B N v [.ref (B + o), .ref (B + 5)] (po0 N (fun ρ v' => ρ = some (.int (zI (mil + ((num + home) - 1000)))) ∧ (va_up (va_up v 5 (.inr (8, [.ref (B + 6), .int (zI ((m : Int) + 5))]))) 6 (iarr E 16 (va_up (va_up (va_up (va_up (va_up tr m 11) (m + 1) 10) (m + 2) 22) (m + 3) 21) (m + 4) 20))) = v')) := by
  refine x_met (nm := "size") (by decide +kernel) rfl (Nat.le_of_ble_eq_true rfl) rfl (fun Γ K KR hnL hnm => ?_)
  show XW Γ N v [(0, .ref (B + o)), (1, .ref (B + 5))] 0 0 0 []
  have hco : ∀ k : Nat, (((m + k : Nat) : Int)) = (m : Int) + (k : Int) := fun k => by omega
  refine x_v (cel_pad hc1) ?_
  refine x_v (cel_pad (cel_ne hc2 (by decide))) ?_
  refine x_aload_n (pc := 0) 1 K rfl rfl dX0_size_0 ?_
  refine x_bipush (pc := 1) K (by decide) dX0_size_1 ?_
  refine x_callV (pc := 3) (C := RX9) (T := TX9) (n := 2) (ci := 8) (As := [.int (zI 11)]) K (c_X9_leave (E := E) (B := B) (N := N) (m := m)  (cel_ne (cel_self hc1.1) (by decide)) (cel_self hc2.1) (by omega)) gX0_size_X9_leave rfl (na := 1) (by decide +kernel) rfl ⟨(Nat.le_of_ble_eq_true rfl), (Nat.le_of_ble_eq_true rfl)⟩ (cel_ne (cel_self hc1.1) (by decide)) rfl (st := []) rfl (Nat.le_of_ble_eq_true rfl) ⟨(Nat.le_of_ble_eq_true rfl), (Nat.le_of_ble_eq_true rfl)⟩ dX0_size_3 (fun r3 N3 w3 hpo3 hN3 => ?_)
  obtain ⟨rfl, rfl, rfl⟩ := hpo3
  refine x_v (congrArg (fun w => (va_up w 6 (iarr E 16 (va_up tr m 11)))) (show (va_up (va_up v 5 (.inr (8, [.ref (B + 6), .int (zI ((m : Int) + 1))]))) 6 (iarr E 16 tr)) = _ from (up_at1 (by decide)).symm)) ?_
  refine x_v (w := (va_up (va_up v 5 (.inr (8, [.ref (B + 6), .int (zI ((m : Int) + 1))]))) 6 (iarr E 16 (va_up tr m 11)))) (up_at0).symm ?_
  refine x_st (st' := []) rfl ?_
  refine x_v (w := (va_up (va_up v 5 (.inr (8, [.ref (B + 6), .int (zI ((m : Int) + 1))]))) 6 (iarr E 16 (va_up tr m 11)))) (by first | rfl | (congr 5; omega)) ?_
  refine x_aload_n (pc := 6) 0 K rfl rfl dX0_size_6 ?_
  refine x_aload_n (pc := 7) 1 K rfl rfl dX0_size_7 ?_
  refine x_callSU (pc := 8) (C := RX10) (T := TX10) (n := 4) (ci := 9) (As := [.ref (B + 5)]) K (c_X6_size_X10 (E := E) (B := B) (N := N) (m := (m + 1))  (cel_ne (cel_ne hc0 (by omega)) (by omega)) (cel_ne (cel_self hc1.1) (by decide)) (cel_self hc2.1) (by omega) (by omega)) gX0_size_X6_size_s15 rfl (na := 1) (by decide +kernel) rfl ⟨(Nat.le_of_ble_eq_true rfl), (Nat.le_of_ble_eq_true rfl)⟩ (cel_ne (cel_ne hc0 (by omega)) (by omega)) rfl (st := []) rfl (Nat.le_of_ble_eq_true rfl) ⟨(Nat.le_of_ble_eq_true rfl), (Nat.le_of_ble_eq_true rfl)⟩ dX0_size_8 (fun r8 N8 w8 hpo8 hN8 => ?_)
  obtain ⟨rfl, rfl, rfl⟩ := hpo8
  refine x_v (congrArg (fun w => (va_up w 6 (iarr E 16 (va_up (va_up tr m 11) (m + 1) 10)))) (show (va_up (va_up v 5 (.inr (8, [.ref (B + 6), .int (zI (((m + 1) : Int) + 1))]))) 6 (iarr E 16 (va_up tr m 11))) = _ from (up_at1 (by decide)).symm)) ?_
  refine x_v (w := (va_up (va_up v 5 (.inr (8, [.ref (B + 6), .int (zI (((m + 1) : Int) + 1))]))) 6 (iarr E 16 (va_up (va_up tr m 11) (m + 1) 10)))) (up_at0).symm ?_
  refine x_st (st' := [.int (zI mil)]) rfl ?_
  refine x_v (w := (va_up (va_up v 5 (.inr (8, [.ref (B + 6), .int (zI ((m : Int) + 2))]))) 6 (iarr E 16 (va_up (va_up tr m 11) (m + 1) 10)))) (by first | rfl | (congr 5; omega)) ?_
  refine x_istore_n (pc := 11) K (L' := [(2, .int (zI mil)), (0, .ref (B + o)), (1, .ref (B + 5))]) hnL rfl (by decide) rfl dX0_size_11 ?_
  refine x_iload_n (pc := 12) 0 K rfl rfl dX0_size_12 ?_
  refine x_aload_n (pc := 13) 1 K rfl rfl dX0_size_13 ?_
  refine x_aload_n (pc := 14) 2 K rfl rfl dX0_size_14 ?_
  refine x_callO (pc := 15) (C := RX10) (T := TX10) (n := 4) (ci := 9) (As := [.ref (B + 5)]) (owner := "BorderBeds$Aunt") (x := ⟨"BorderBeds$Aunt", "mark", "(LBorderBeds$Trace;)I"⟩) (b0 := cX0_mark) (m0 := 2) (r0 := (some .int)) K (c_X10_mark_X10 (E := E) (B := B) (N := N) (m := (m + 2))  (cel_ne (cel_ne hc0 (by omega)) (by omega)) (cel_ne (cel_self hc1.1) (by decide)) (cel_self hc2.1) (by omega) (by omega)) gX0_size_X10_mark_u19X10 rfl (by decide +kernel) (na := 1) (by decide +kernel) rfl ⟨(Nat.le_of_ble_eq_true rfl), (Nat.le_of_ble_eq_true rfl)⟩ (cel_ne (cel_ne hc0 (by omega)) (by omega)) rfl (st := [.int (zI mil)]) rfl (Nat.le_of_ble_eq_true rfl) ⟨(Nat.le_of_ble_eq_true rfl), (Nat.le_of_ble_eq_true rfl)⟩ dX0_size_15 (fun r15 N15 w15 hpo15 hN15 => ?_)
  obtain ⟨rfl, rfl, rfl⟩ := hpo15
  refine x_v (congrArg (fun w => (va_up w 6 (iarr E 16 (va_up (va_up (va_up (va_up (va_up tr m 11) (m + 1) 10) (m + 2) 22) ((m + 2) + 1) 21) ((m + 2) + 2) 20)))) (show (va_up (va_up v 5 (.inr (8, [.ref (B + 6), .int (zI (((m + 2) : Int) + 3))]))) 6 (iarr E 16 (va_up (va_up tr m 11) (m + 1) 10))) = _ from (up_at1 (by decide)).symm)) ?_
  refine x_v (w := (va_up (va_up v 5 (.inr (8, [.ref (B + 6), .int (zI (((m + 2) : Int) + 3))]))) 6 (iarr E 16 (va_up (va_up (va_up (va_up (va_up tr m 11) (m + 1) 10) (m + 2) 22) ((m + 2) + 1) 21) ((m + 2) + 2) 20)))) (up_at0).symm ?_
  refine x_st (st' := [.int (zI ((num + home) - 1000)), .int (zI mil)]) rfl ?_
  refine x_v (w := (va_up (va_up v 5 (.inr (8, [.ref (B + 6), .int (zI ((m : Int) + 5))]))) 6 (iarr E 16 (va_up (va_up (va_up (va_up (va_up tr m 11) (m + 1) 10) (m + 2) 22) ((m + 2) + 1) 21) ((m + 2) + 2) 20)))) (by first | rfl | (congr 5; omega)) ?_
  refine x_iadd (pc := 18) K dX0_size_18 ?_
  refine x_iret (pc := 19) K KR (by omega) (Nat.le_of_ble_eq_true rfl) (Nat.le_of_ble_eq_true rfl) dX0_size_19 ?_
  exact ⟨rfl, rfl, rfl⟩

set_option maxRecDepth 100000 in
set_option maxHeartbeats 4000000 in
theorem c_X2_size_X2 {E : XE} {B N : Nat} {v : Nat → va_E} {o : Nat} {num lnd home mil : Int} {m : Nat} {tr : Nat → Int} (hc0 : Cel N v o (.inr (2, [.int (zI num), .int (zI lnd), .int (zI home), .int (zI mil)]))) (hc1 : Cel N v 5 (.inr (8, [.ref (B + 6), .int (zI (m : Int))]))) (hc2 : Cel N v 6 (iarr E 16 tr)) (hq0 : m + 6 ≤ 16) (hq1 : o ≠ 5 ∧ o ≠ 6) : gM yX2_size wsX2_size ({ frames := 5, cells := 0, slots := 0, locals := 106 }) E B N v [.ref (B + o), .ref (B + 5)] (po0 N (fun ρ v' => ρ = some (.int (zI (0 - (mil + (2 * (num + home)))))) ∧ (va_up (va_up v 5 (.inr (8, [.ref (B + 6), .int (zI ((m : Int) + 6))]))) 6 (iarr E 16 (va_up (va_up (va_up (va_up (va_up (va_up tr m 12) (m + 1) 11) (m + 2) 10) (m + 3) 24) (m + 4) 21) (m + 5) 20))) = v')) := by
  refine x_met (nm := "size") (by decide +kernel) rfl (Nat.le_of_ble_eq_true rfl) rfl (fun Γ K KR hnL hnm => ?_)
  show XW Γ N v [(0, .ref (B + o)), (1, .ref (B + 5))] 0 0 0 []
  have hco : ∀ k : Nat, (((m + k : Nat) : Int)) = (m : Int) + (k : Int) := fun k => by omega
  refine x_v (cel_pad hc1) ?_
  refine x_v (cel_pad (cel_ne hc2 (by decide))) ?_
  refine x_aload_n (pc := 0) 1 K rfl rfl dX2_size_0 ?_
  refine x_bipush (pc := 1) K (by decide) dX2_size_1 ?_
  refine x_callV (pc := 3) (C := RX9) (T := TX9) (n := 2) (ci := 8) (As := [.int (zI 12)]) K (c_X9_leave (E := E) (B := B) (N := N) (m := m)  (cel_ne (cel_self hc1.1) (by decide)) (cel_self hc2.1) (by omega)) gX2_size_X9_leave rfl (na := 1) (by decide +kernel) rfl ⟨(Nat.le_of_ble_eq_true rfl), (Nat.le_of_ble_eq_true rfl)⟩ (cel_ne (cel_self hc1.1) (by decide)) rfl (st := []) rfl (Nat.le_of_ble_eq_true rfl) ⟨(Nat.le_of_ble_eq_true rfl), (Nat.le_of_ble_eq_true rfl)⟩ dX2_size_3 (fun r3 N3 w3 hpo3 hN3 => ?_)
  obtain ⟨rfl, rfl, rfl⟩ := hpo3
  refine x_v (congrArg (fun w => (va_up w 6 (iarr E 16 (va_up tr m 12)))) (show (va_up (va_up v 5 (.inr (8, [.ref (B + 6), .int (zI ((m : Int) + 1))]))) 6 (iarr E 16 tr)) = _ from (up_at1 (by decide)).symm)) ?_
  refine x_v (w := (va_up (va_up v 5 (.inr (8, [.ref (B + 6), .int (zI ((m : Int) + 1))]))) 6 (iarr E 16 (va_up tr m 12)))) (up_at0).symm ?_
  refine x_st (st' := []) rfl ?_
  refine x_v (w := (va_up (va_up v 5 (.inr (8, [.ref (B + 6), .int (zI ((m : Int) + 1))]))) 6 (iarr E 16 (va_up tr m 12)))) (by first | rfl | (congr 5; omega)) ?_
  refine x_iconst (pc := 6) K dX2_size_6 ?_
  refine x_aload_n (pc := 7) 0 K rfl rfl dX2_size_7 ?_
  refine x_aload_n (pc := 8) 1 K rfl rfl dX2_size_8 ?_
  refine x_callSU (pc := 9) (C := RX2) (T := TX2) (n := 4) (ci := 2) (As := [.ref (B + 5)]) K (c_X0_size_X2 (E := E) (B := B) (N := N) (m := (m + 1))  (cel_ne (cel_ne hc0 (by omega)) (by omega)) (cel_ne (cel_self hc1.1) (by decide)) (cel_self hc2.1) (by omega) (by omega)) gX2_size_X0_size_s19 rfl (na := 1) (by decide +kernel) rfl ⟨(Nat.le_of_ble_eq_true rfl), (Nat.le_of_ble_eq_true rfl)⟩ (cel_ne (cel_ne hc0 (by omega)) (by omega)) rfl (st := [.int (zI 0)]) rfl (Nat.le_of_ble_eq_true rfl) ⟨(Nat.le_of_ble_eq_true rfl), (Nat.le_of_ble_eq_true rfl)⟩ dX2_size_9 (fun r9 N9 w9 hpo9 hN9 => ?_)
  obtain ⟨rfl, rfl, rfl⟩ := hpo9
  refine x_v (congrArg (fun w => (va_up w 6 (iarr E 16 (va_up (va_up (va_up (va_up (va_up (va_up tr m 12) (m + 1) 11) ((m + 1) + 1) 10) ((m + 1) + 2) 24) ((m + 1) + 3) 21) ((m + 1) + 4) 20)))) (show (va_up (va_up v 5 (.inr (8, [.ref (B + 6), .int (zI (((m + 1) : Int) + 5))]))) 6 (iarr E 16 (va_up tr m 12))) = _ from (up_at1 (by decide)).symm)) ?_
  refine x_v (w := (va_up (va_up v 5 (.inr (8, [.ref (B + 6), .int (zI (((m + 1) : Int) + 5))]))) 6 (iarr E 16 (va_up (va_up (va_up (va_up (va_up (va_up tr m 12) (m + 1) 11) ((m + 1) + 1) 10) ((m + 1) + 2) 24) ((m + 1) + 3) 21) ((m + 1) + 4) 20)))) (up_at0).symm ?_
  refine x_st (st' := [.int (zI (mil + (2 * (num + home)))), .int (zI 0)]) rfl ?_
  refine x_v (w := (va_up (va_up v 5 (.inr (8, [.ref (B + 6), .int (zI ((m : Int) + 6))]))) 6 (iarr E 16 (va_up (va_up (va_up (va_up (va_up (va_up tr m 12) (m + 1) 11) ((m + 1) + 1) 10) ((m + 1) + 2) 24) ((m + 1) + 3) 21) ((m + 1) + 4) 20)))) (by first | rfl | (congr 5; omega)) ?_
  refine x_isub (pc := 12) K dX2_size_12 ?_
  refine x_iret (pc := 13) K KR (by omega) (Nat.le_of_ble_eq_true rfl) (Nat.le_of_ble_eq_true rfl) dX2_size_13 ?_
  exact ⟨rfl, rfl, rfl⟩

set_option maxRecDepth 100000 in
set_option maxHeartbeats 4000000 in
theorem c_X1_size_X1 {E : XE} {B N : Nat} {v : Nat → va_E} {o : Nat} {num lnd home mil : Int} {m : Nat} {tr : Nat → Int} (hc0 : Cel N v o (.inr (1, [.int (zI num), .int (zI lnd), .int (zI home), .int (zI mil)]))) (hc1 : Cel N v 5 (.inr (8, [.ref (B + 6), .int (zI (m : Int))]))) (hc2 : Cel N v 6 (iarr E 16 tr)) (hq0 : m + 2 ≤ 16) (hq1 : o ≠ 5 ∧ o ≠ 6) : gM yX1_size wsX1_size ({ frames := 2, cells := 0, slots := 0, locals := 42 }) E B N v [.ref (B + o), .ref (B + 5)] (po0 N (fun ρ v' => ρ = some (.int (zI (mil - 100))) ∧ (va_up (va_up v 5 (.inr (8, [.ref (B + 6), .int (zI ((m : Int) + 2))]))) 6 (iarr E 16 (va_up (va_up tr m 13) (m + 1) 10))) = v')) := by
  refine x_met (nm := "size") (by decide +kernel) rfl (Nat.le_of_ble_eq_true rfl) rfl (fun Γ K KR hnL hnm => ?_)
  show XW Γ N v [(0, .ref (B + o)), (1, .ref (B + 5))] 0 0 0 []
  have hco : ∀ k : Nat, (((m + k : Nat) : Int)) = (m : Int) + (k : Int) := fun k => by omega
  refine x_v (cel_pad hc1) ?_
  refine x_v (cel_pad (cel_ne hc2 (by decide))) ?_
  refine x_aload_n (pc := 0) 1 K rfl rfl dX1_size_0 ?_
  refine x_bipush (pc := 1) K (by decide) dX1_size_1 ?_
  refine x_callV (pc := 3) (C := RX9) (T := TX9) (n := 2) (ci := 8) (As := [.int (zI 13)]) K (c_X9_leave (E := E) (B := B) (N := N) (m := m)  (cel_ne (cel_self hc1.1) (by decide)) (cel_self hc2.1) (by omega)) gX1_size_X9_leave rfl (na := 1) (by decide +kernel) rfl ⟨(Nat.le_of_ble_eq_true rfl), (Nat.le_of_ble_eq_true rfl)⟩ (cel_ne (cel_self hc1.1) (by decide)) rfl (st := []) rfl (Nat.le_of_ble_eq_true rfl) ⟨(Nat.le_of_ble_eq_true rfl), (Nat.le_of_ble_eq_true rfl)⟩ dX1_size_3 (fun r3 N3 w3 hpo3 hN3 => ?_)
  obtain ⟨rfl, rfl, rfl⟩ := hpo3
  refine x_v (congrArg (fun w => (va_up w 6 (iarr E 16 (va_up tr m 13)))) (show (va_up (va_up v 5 (.inr (8, [.ref (B + 6), .int (zI ((m : Int) + 1))]))) 6 (iarr E 16 tr)) = _ from (up_at1 (by decide)).symm)) ?_
  refine x_v (w := (va_up (va_up v 5 (.inr (8, [.ref (B + 6), .int (zI ((m : Int) + 1))]))) 6 (iarr E 16 (va_up tr m 13)))) (up_at0).symm ?_
  refine x_st (st' := []) rfl ?_
  refine x_v (w := (va_up (va_up v 5 (.inr (8, [.ref (B + 6), .int (zI ((m : Int) + 1))]))) 6 (iarr E 16 (va_up tr m 13)))) (by first | rfl | (congr 5; omega)) ?_
  refine x_aload_n (pc := 6) 0 K rfl rfl dX1_size_6 ?_
  refine x_aload_n (pc := 7) 1 K rfl rfl dX1_size_7 ?_
  refine x_callSU (pc := 8) (C := RX1) (T := TX1) (n := 4) (ci := 1) (As := [.ref (B + 5)]) K (c_X6_size_X1 (E := E) (B := B) (N := N) (m := (m + 1))  (cel_ne (cel_ne hc0 (by omega)) (by omega)) (cel_ne (cel_self hc1.1) (by decide)) (cel_self hc2.1) (by omega) (by omega)) gX1_size_X6_size_s15 rfl (na := 1) (by decide +kernel) rfl ⟨(Nat.le_of_ble_eq_true rfl), (Nat.le_of_ble_eq_true rfl)⟩ (cel_ne (cel_ne hc0 (by omega)) (by omega)) rfl (st := []) rfl (Nat.le_of_ble_eq_true rfl) ⟨(Nat.le_of_ble_eq_true rfl), (Nat.le_of_ble_eq_true rfl)⟩ dX1_size_8 (fun r8 N8 w8 hpo8 hN8 => ?_)
  obtain ⟨rfl, rfl, rfl⟩ := hpo8
  refine x_v (congrArg (fun w => (va_up w 6 (iarr E 16 (va_up (va_up tr m 13) (m + 1) 10)))) (show (va_up (va_up v 5 (.inr (8, [.ref (B + 6), .int (zI (((m + 1) : Int) + 1))]))) 6 (iarr E 16 (va_up tr m 13))) = _ from (up_at1 (by decide)).symm)) ?_
  refine x_v (w := (va_up (va_up v 5 (.inr (8, [.ref (B + 6), .int (zI (((m + 1) : Int) + 1))]))) 6 (iarr E 16 (va_up (va_up tr m 13) (m + 1) 10)))) (up_at0).symm ?_
  refine x_st (st' := [.int (zI mil)]) rfl ?_
  refine x_v (w := (va_up (va_up v 5 (.inr (8, [.ref (B + 6), .int (zI ((m : Int) + 2))]))) 6 (iarr E 16 (va_up (va_up tr m 13) (m + 1) 10)))) (by first | rfl | (congr 5; omega)) ?_
  refine x_bipush (pc := 11) K (by decide) dX1_size_11 ?_
  refine x_isub (pc := 13) K dX1_size_13 ?_
  refine x_iret (pc := 14) K KR (by omega) (Nat.le_of_ble_eq_true rfl) (Nat.le_of_ble_eq_true rfl) dX1_size_14 ?_
  exact ⟨rfl, rfl, rfl⟩

set_option maxRecDepth 100000 in
set_option maxHeartbeats 4000000 in
theorem c_X1_size_X5 {E : XE} {B N : Nat} {v : Nat → va_E} {o : Nat} {num lnd home mil : Int} {m : Nat} {tr : Nat → Int} (hc0 : Cel N v o (.inr (5, [.int (zI num), .int (zI lnd), .int (zI home), .int (zI mil)]))) (hc1 : Cel N v 5 (.inr (8, [.ref (B + 6), .int (zI (m : Int))]))) (hc2 : Cel N v 6 (iarr E 16 tr)) (hq0 : m + 2 ≤ 16) (hq1 : o ≠ 5 ∧ o ≠ 6) : gM yX1_size wsX1_size ({ frames := 2, cells := 0, slots := 0, locals := 42 }) E B N v [.ref (B + o), .ref (B + 5)] (po0 N (fun ρ v' => ρ = some (.int (zI (mil - 100))) ∧ (va_up (va_up v 5 (.inr (8, [.ref (B + 6), .int (zI ((m : Int) + 2))]))) 6 (iarr E 16 (va_up (va_up tr m 13) (m + 1) 10))) = v')) := by
  refine x_met (nm := "size") (by decide +kernel) rfl (Nat.le_of_ble_eq_true rfl) rfl (fun Γ K KR hnL hnm => ?_)
  show XW Γ N v [(0, .ref (B + o)), (1, .ref (B + 5))] 0 0 0 []
  have hco : ∀ k : Nat, (((m + k : Nat) : Int)) = (m : Int) + (k : Int) := fun k => by omega
  refine x_v (cel_pad hc1) ?_
  refine x_v (cel_pad (cel_ne hc2 (by decide))) ?_
  refine x_aload_n (pc := 0) 1 K rfl rfl dX1_size_0 ?_
  refine x_bipush (pc := 1) K (by decide) dX1_size_1 ?_
  refine x_callV (pc := 3) (C := RX9) (T := TX9) (n := 2) (ci := 8) (As := [.int (zI 13)]) K (c_X9_leave (E := E) (B := B) (N := N) (m := m)  (cel_ne (cel_self hc1.1) (by decide)) (cel_self hc2.1) (by omega)) gX1_size_X9_leave rfl (na := 1) (by decide +kernel) rfl ⟨(Nat.le_of_ble_eq_true rfl), (Nat.le_of_ble_eq_true rfl)⟩ (cel_ne (cel_self hc1.1) (by decide)) rfl (st := []) rfl (Nat.le_of_ble_eq_true rfl) ⟨(Nat.le_of_ble_eq_true rfl), (Nat.le_of_ble_eq_true rfl)⟩ dX1_size_3 (fun r3 N3 w3 hpo3 hN3 => ?_)
  obtain ⟨rfl, rfl, rfl⟩ := hpo3
  refine x_v (congrArg (fun w => (va_up w 6 (iarr E 16 (va_up tr m 13)))) (show (va_up (va_up v 5 (.inr (8, [.ref (B + 6), .int (zI ((m : Int) + 1))]))) 6 (iarr E 16 tr)) = _ from (up_at1 (by decide)).symm)) ?_
  refine x_v (w := (va_up (va_up v 5 (.inr (8, [.ref (B + 6), .int (zI ((m : Int) + 1))]))) 6 (iarr E 16 (va_up tr m 13)))) (up_at0).symm ?_
  refine x_st (st' := []) rfl ?_
  refine x_v (w := (va_up (va_up v 5 (.inr (8, [.ref (B + 6), .int (zI ((m : Int) + 1))]))) 6 (iarr E 16 (va_up tr m 13)))) (by first | rfl | (congr 5; omega)) ?_
  refine x_aload_n (pc := 6) 0 K rfl rfl dX1_size_6 ?_
  refine x_aload_n (pc := 7) 1 K rfl rfl dX1_size_7 ?_
  refine x_callSU (pc := 8) (C := RX5) (T := TX5) (n := 4) (ci := 5) (As := [.ref (B + 5)]) K (c_X6_size_X5 (E := E) (B := B) (N := N) (m := (m + 1))  (cel_ne (cel_ne hc0 (by omega)) (by omega)) (cel_ne (cel_self hc1.1) (by decide)) (cel_self hc2.1) (by omega) (by omega)) gX1_size_X6_size_s15 rfl (na := 1) (by decide +kernel) rfl ⟨(Nat.le_of_ble_eq_true rfl), (Nat.le_of_ble_eq_true rfl)⟩ (cel_ne (cel_ne hc0 (by omega)) (by omega)) rfl (st := []) rfl (Nat.le_of_ble_eq_true rfl) ⟨(Nat.le_of_ble_eq_true rfl), (Nat.le_of_ble_eq_true rfl)⟩ dX1_size_8 (fun r8 N8 w8 hpo8 hN8 => ?_)
  obtain ⟨rfl, rfl, rfl⟩ := hpo8
  refine x_v (congrArg (fun w => (va_up w 6 (iarr E 16 (va_up (va_up tr m 13) (m + 1) 10)))) (show (va_up (va_up v 5 (.inr (8, [.ref (B + 6), .int (zI (((m + 1) : Int) + 1))]))) 6 (iarr E 16 (va_up tr m 13))) = _ from (up_at1 (by decide)).symm)) ?_
  refine x_v (w := (va_up (va_up v 5 (.inr (8, [.ref (B + 6), .int (zI (((m + 1) : Int) + 1))]))) 6 (iarr E 16 (va_up (va_up tr m 13) (m + 1) 10)))) (up_at0).symm ?_
  refine x_st (st' := [.int (zI mil)]) rfl ?_
  refine x_v (w := (va_up (va_up v 5 (.inr (8, [.ref (B + 6), .int (zI ((m : Int) + 2))]))) 6 (iarr E 16 (va_up (va_up tr m 13) (m + 1) 10)))) (by first | rfl | (congr 5; omega)) ?_
  refine x_bipush (pc := 11) K (by decide) dX1_size_11 ?_
  refine x_isub (pc := 13) K dX1_size_13 ?_
  refine x_iret (pc := 14) K KR (by omega) (Nat.le_of_ble_eq_true rfl) (Nat.le_of_ble_eq_true rfl) dX1_size_14 ?_
  exact ⟨rfl, rfl, rfl⟩

set_option maxRecDepth 100000 in
set_option maxHeartbeats 4000000 in
theorem c_X5_size_X5 {E : XE} {B N : Nat} {v : Nat → va_E} {o : Nat} {num lnd home mil : Int} {m : Nat} {tr : Nat → Int} (hc0 : Cel N v o (.inr (5, [.int (zI num), .int (zI lnd), .int (zI home), .int (zI mil)]))) (hc1 : Cel N v 5 (.inr (8, [.ref (B + 6), .int (zI (m : Int))]))) (hc2 : Cel N v 6 (iarr E 16 tr)) (hq0 : m + 3 ≤ 16) (hq1 : o ≠ 5 ∧ o ≠ 6) : gM yX5_size wsX5_size ({ frames := 3, cells := 0, slots := 0, locals := 63 }) E B N v [.ref (B + o), .ref (B + 5)] (po0 N (fun ρ v' => ρ = some (.int (zI (2 * (mil - 100)))) ∧ (va_up (va_up v 5 (.inr (8, [.ref (B + 6), .int (zI ((m : Int) + 3))]))) 6 (iarr E 16 (va_up (va_up (va_up tr m 14) (m + 1) 13) (m + 2) 10))) = v')) := by
  refine x_met (nm := "size") (by decide +kernel) rfl (Nat.le_of_ble_eq_true rfl) rfl (fun Γ K KR hnL hnm => ?_)
  show XW Γ N v [(0, .ref (B + o)), (1, .ref (B + 5))] 0 0 0 []
  have hco : ∀ k : Nat, (((m + k : Nat) : Int)) = (m : Int) + (k : Int) := fun k => by omega
  refine x_v (cel_pad hc1) ?_
  refine x_v (cel_pad (cel_ne hc2 (by decide))) ?_
  refine x_aload_n (pc := 0) 1 K rfl rfl dX5_size_0 ?_
  refine x_bipush (pc := 1) K (by decide) dX5_size_1 ?_
  refine x_callV (pc := 3) (C := RX9) (T := TX9) (n := 2) (ci := 8) (As := [.int (zI 14)]) K (c_X9_leave (E := E) (B := B) (N := N) (m := m)  (cel_ne (cel_self hc1.1) (by decide)) (cel_self hc2.1) (by omega)) gX5_size_X9_leave rfl (na := 1) (by decide +kernel) rfl ⟨(Nat.le_of_ble_eq_true rfl), (Nat.le_of_ble_eq_true rfl)⟩ (cel_ne (cel_self hc1.1) (by decide)) rfl (st := []) rfl (Nat.le_of_ble_eq_true rfl) ⟨(Nat.le_of_ble_eq_true rfl), (Nat.le_of_ble_eq_true rfl)⟩ dX5_size_3 (fun r3 N3 w3 hpo3 hN3 => ?_)
  obtain ⟨rfl, rfl, rfl⟩ := hpo3
  refine x_v (congrArg (fun w => (va_up w 6 (iarr E 16 (va_up tr m 14)))) (show (va_up (va_up v 5 (.inr (8, [.ref (B + 6), .int (zI ((m : Int) + 1))]))) 6 (iarr E 16 tr)) = _ from (up_at1 (by decide)).symm)) ?_
  refine x_v (w := (va_up (va_up v 5 (.inr (8, [.ref (B + 6), .int (zI ((m : Int) + 1))]))) 6 (iarr E 16 (va_up tr m 14)))) (up_at0).symm ?_
  refine x_st (st' := []) rfl ?_
  refine x_v (w := (va_up (va_up v 5 (.inr (8, [.ref (B + 6), .int (zI ((m : Int) + 1))]))) 6 (iarr E 16 (va_up tr m 14)))) (by first | rfl | (congr 5; omega)) ?_
  refine x_iconst (pc := 6) K dX5_size_6 ?_
  refine x_aload_n (pc := 7) 0 K rfl rfl dX5_size_7 ?_
  refine x_aload_n (pc := 8) 1 K rfl rfl dX5_size_8 ?_
  refine x_callSU (pc := 9) (C := RX5) (T := TX5) (n := 4) (ci := 5) (As := [.ref (B + 5)]) K (c_X1_size_X5 (E := E) (B := B) (N := N) (m := (m + 1))  (cel_ne (cel_ne hc0 (by omega)) (by omega)) (cel_ne (cel_self hc1.1) (by decide)) (cel_self hc2.1) (by omega) (by omega)) gX5_size_X1_size_s15 rfl (na := 1) (by decide +kernel) rfl ⟨(Nat.le_of_ble_eq_true rfl), (Nat.le_of_ble_eq_true rfl)⟩ (cel_ne (cel_ne hc0 (by omega)) (by omega)) rfl (st := [.int (zI 2)]) rfl (Nat.le_of_ble_eq_true rfl) ⟨(Nat.le_of_ble_eq_true rfl), (Nat.le_of_ble_eq_true rfl)⟩ dX5_size_9 (fun r9 N9 w9 hpo9 hN9 => ?_)
  obtain ⟨rfl, rfl, rfl⟩ := hpo9
  refine x_v (congrArg (fun w => (va_up w 6 (iarr E 16 (va_up (va_up (va_up tr m 14) (m + 1) 13) ((m + 1) + 1) 10)))) (show (va_up (va_up v 5 (.inr (8, [.ref (B + 6), .int (zI (((m + 1) : Int) + 2))]))) 6 (iarr E 16 (va_up tr m 14))) = _ from (up_at1 (by decide)).symm)) ?_
  refine x_v (w := (va_up (va_up v 5 (.inr (8, [.ref (B + 6), .int (zI (((m + 1) : Int) + 2))]))) 6 (iarr E 16 (va_up (va_up (va_up tr m 14) (m + 1) 13) ((m + 1) + 1) 10)))) (up_at0).symm ?_
  refine x_st (st' := [.int (zI (mil - 100)), .int (zI 2)]) rfl ?_
  refine x_v (w := (va_up (va_up v 5 (.inr (8, [.ref (B + 6), .int (zI ((m : Int) + 3))]))) 6 (iarr E 16 (va_up (va_up (va_up tr m 14) (m + 1) 13) ((m + 1) + 1) 10)))) (by first | rfl | (congr 5; omega)) ?_
  refine x_imul (pc := 12) K dX5_size_12 ?_
  refine x_iret (pc := 13) K KR (by omega) (Nat.le_of_ble_eq_true rfl) (Nat.le_of_ble_eq_true rfl) dX5_size_13 ?_
  exact ⟨rfl, rfl, rfl⟩

set_option maxRecDepth 100000 in
set_option maxHeartbeats 4000000 in
theorem c_X1_mark_X1 {E : XE} {B N : Nat} {v : Nat → va_E} {o : Nat} {num lnd home mil : Int} {m : Nat} {tr : Nat → Int} (hc0 : Cel N v o (.inr (1, [.int (zI num), .int (zI lnd), .int (zI home), .int (zI mil)]))) (hc1 : Cel N v 5 (.inr (8, [.ref (B + 6), .int (zI (m : Int))]))) (hc2 : Cel N v 6 (iarr E 16 tr)) (hq0 : m + 4 ≤ 16) (hq1 : o ≠ 5 ∧ o ≠ 6) : gM yX1_mark wsX1_mark ({ frames := 4, cells := 0, slots := 0, locals := 84 }) E B N v [.ref (B + o), .ref (B + 5)] (po0 N (fun ρ v' => ρ = some (.int (zI (num - (mil - 100)))) ∧ (va_up (va_up v 5 (.inr (8, [.ref (B + 6), .int (zI ((m : Int) + 4))]))) 6 (iarr E 16 (va_up (va_up (va_up (va_up tr m 23) (m + 1) 20) (m + 2) 13) (m + 3) 10))) = v')) := by
  refine x_met (nm := "mark") (by decide +kernel) rfl (Nat.le_of_ble_eq_true rfl) rfl (fun Γ K KR hnL hnm => ?_)
  show XW Γ N v [(0, .ref (B + o)), (1, .ref (B + 5))] 0 0 0 []
  have hco : ∀ k : Nat, (((m + k : Nat) : Int)) = (m : Int) + (k : Int) := fun k => by omega
  refine x_v (cel_pad hc1) ?_
  refine x_v (cel_pad (cel_ne hc2 (by decide))) ?_
  refine x_aload_n (pc := 0) 1 K rfl rfl dX1_mark_0 ?_
  refine x_bipush (pc := 1) K (by decide) dX1_mark_1 ?_
  refine x_callV (pc := 3) (C := RX9) (T := TX9) (n := 2) (ci := 8) (As := [.int (zI 23)]) K (c_X9_leave (E := E) (B := B) (N := N) (m := m)  (cel_ne (cel_self hc1.1) (by decide)) (cel_self hc2.1) (by omega)) gX1_mark_X9_leave rfl (na := 1) (by decide +kernel) rfl ⟨(Nat.le_of_ble_eq_true rfl), (Nat.le_of_ble_eq_true rfl)⟩ (cel_ne (cel_self hc1.1) (by decide)) rfl (st := []) rfl (Nat.le_of_ble_eq_true rfl) ⟨(Nat.le_of_ble_eq_true rfl), (Nat.le_of_ble_eq_true rfl)⟩ dX1_mark_3 (fun r3 N3 w3 hpo3 hN3 => ?_)
  obtain ⟨rfl, rfl, rfl⟩ := hpo3
  refine x_v (congrArg (fun w => (va_up w 6 (iarr E 16 (va_up tr m 23)))) (show (va_up (va_up v 5 (.inr (8, [.ref (B + 6), .int (zI ((m : Int) + 1))]))) 6 (iarr E 16 tr)) = _ from (up_at1 (by decide)).symm)) ?_
  refine x_v (w := (va_up (va_up v 5 (.inr (8, [.ref (B + 6), .int (zI ((m : Int) + 1))]))) 6 (iarr E 16 (va_up tr m 23)))) (up_at0).symm ?_
  refine x_st (st' := []) rfl ?_
  refine x_v (w := (va_up (va_up v 5 (.inr (8, [.ref (B + 6), .int (zI ((m : Int) + 1))]))) 6 (iarr E 16 (va_up tr m 23)))) (by first | rfl | (congr 5; omega)) ?_
  refine x_aload_n (pc := 6) 0 K rfl rfl dX1_mark_6 ?_
  refine x_aload_n (pc := 7) 1 K rfl rfl dX1_mark_7 ?_
  refine x_callSU (pc := 8) (C := RX1) (T := TX1) (n := 4) (ci := 1) (As := [.ref (B + 5)]) K (c_X6_mark_X1 (E := E) (B := B) (N := N) (m := (m + 1))  (cel_ne (cel_ne hc0 (by omega)) (by omega)) (cel_ne (cel_self hc1.1) (by decide)) (cel_self hc2.1) (by omega) (by omega)) gX1_mark_X6_mark_s19 rfl (na := 1) (by decide +kernel) rfl ⟨(Nat.le_of_ble_eq_true rfl), (Nat.le_of_ble_eq_true rfl)⟩ (cel_ne (cel_ne hc0 (by omega)) (by omega)) rfl (st := []) rfl (Nat.le_of_ble_eq_true rfl) ⟨(Nat.le_of_ble_eq_true rfl), (Nat.le_of_ble_eq_true rfl)⟩ dX1_mark_8 (fun r8 N8 w8 hpo8 hN8 => ?_)
  obtain ⟨rfl, rfl, rfl⟩ := hpo8
  refine x_v (congrArg (fun w => (va_up w 6 (iarr E 16 (va_up (va_up tr m 23) (m + 1) 20)))) (show (va_up (va_up v 5 (.inr (8, [.ref (B + 6), .int (zI (((m + 1) : Int) + 1))]))) 6 (iarr E 16 (va_up tr m 23))) = _ from (up_at1 (by decide)).symm)) ?_
  refine x_v (w := (va_up (va_up v 5 (.inr (8, [.ref (B + 6), .int (zI (((m + 1) : Int) + 1))]))) 6 (iarr E 16 (va_up (va_up tr m 23) (m + 1) 20)))) (up_at0).symm ?_
  refine x_st (st' := [.int (zI num)]) rfl ?_
  refine x_v (w := (va_up (va_up v 5 (.inr (8, [.ref (B + 6), .int (zI ((m : Int) + 2))]))) 6 (iarr E 16 (va_up (va_up tr m 23) (m + 1) 20)))) (by first | rfl | (congr 5; omega)) ?_
  refine x_istore_n (pc := 11) K (L' := [(2, .int (zI num)), (0, .ref (B + o)), (1, .ref (B + 5))]) hnL rfl (by decide) rfl dX1_mark_11 ?_
  refine x_iload_n (pc := 12) 0 K rfl rfl dX1_mark_12 ?_
  refine x_aload_n (pc := 13) 1 K rfl rfl dX1_mark_13 ?_
  refine x_aload_n (pc := 14) 2 K rfl rfl dX1_mark_14 ?_
  refine x_callV (pc := 15) (C := RX1) (T := TX1) (n := 4) (ci := 1) (As := [.ref (B + 5)]) K (c_X1_size_X1 (E := E) (B := B) (N := N) (m := (m + 2))  (cel_ne (cel_ne hc0 (by omega)) (by omega)) (cel_ne (cel_self hc1.1) (by decide)) (cel_self hc2.1) (by omega) (by omega)) gX1_mark_X1_size rfl (na := 1) (by decide +kernel) rfl ⟨(Nat.le_of_ble_eq_true rfl), (Nat.le_of_ble_eq_true rfl)⟩ (cel_ne (cel_ne hc0 (by omega)) (by omega)) rfl (st := [.int (zI num)]) rfl (Nat.le_of_ble_eq_true rfl) ⟨(Nat.le_of_ble_eq_true rfl), (Nat.le_of_ble_eq_true rfl)⟩ dX1_mark_15 (fun r15 N15 w15 hpo15 hN15 => ?_)
  obtain ⟨rfl, rfl, rfl⟩ := hpo15
  refine x_v (congrArg (fun w => (va_up w 6 (iarr E 16 (va_up (va_up (va_up (va_up tr m 23) (m + 1) 20) (m + 2) 13) ((m + 2) + 1) 10)))) (show (va_up (va_up v 5 (.inr (8, [.ref (B + 6), .int (zI (((m + 2) : Int) + 2))]))) 6 (iarr E 16 (va_up (va_up tr m 23) (m + 1) 20))) = _ from (up_at1 (by decide)).symm)) ?_
  refine x_v (w := (va_up (va_up v 5 (.inr (8, [.ref (B + 6), .int (zI (((m + 2) : Int) + 2))]))) 6 (iarr E 16 (va_up (va_up (va_up (va_up tr m 23) (m + 1) 20) (m + 2) 13) ((m + 2) + 1) 10)))) (up_at0).symm ?_
  refine x_st (st' := [.int (zI (mil - 100)), .int (zI num)]) rfl ?_
  refine x_v (w := (va_up (va_up v 5 (.inr (8, [.ref (B + 6), .int (zI ((m : Int) + 4))]))) 6 (iarr E 16 (va_up (va_up (va_up (va_up tr m 23) (m + 1) 20) (m + 2) 13) ((m + 2) + 1) 10)))) (by first | rfl | (congr 5; omega)) ?_
  refine x_isub (pc := 18) K dX1_mark_18 ?_
  refine x_iret (pc := 19) K KR (by omega) (Nat.le_of_ble_eq_true rfl) (Nat.le_of_ble_eq_true rfl) dX1_mark_19 ?_
  exact ⟨rfl, rfl, rfl⟩

set_option maxRecDepth 100000 in
set_option maxHeartbeats 4000000 in
theorem c_X1_mark_X5 {E : XE} {B N : Nat} {v : Nat → va_E} {o : Nat} {num lnd home mil : Int} {m : Nat} {tr : Nat → Int} (hc0 : Cel N v o (.inr (5, [.int (zI num), .int (zI lnd), .int (zI home), .int (zI mil)]))) (hc1 : Cel N v 5 (.inr (8, [.ref (B + 6), .int (zI (m : Int))]))) (hc2 : Cel N v 6 (iarr E 16 tr)) (hq0 : m + 5 ≤ 16) (hq1 : o ≠ 5 ∧ o ≠ 6) : gM yX1_mark wsX1_mark ({ frames := 4, cells := 0, slots := 0, locals := 84 }) E B N v [.ref (B + o), .ref (B + 5)] (po0 N (fun ρ v' => ρ = some (.int (zI (num - (2 * (mil - 100))))) ∧ (va_up (va_up v 5 (.inr (8, [.ref (B + 6), .int (zI ((m : Int) + 5))]))) 6 (iarr E 16 (va_up (va_up (va_up (va_up (va_up tr m 23) (m + 1) 20) (m + 2) 14) (m + 3) 13) (m + 4) 10))) = v')) := by
  refine x_met (nm := "mark") (by decide +kernel) rfl (Nat.le_of_ble_eq_true rfl) rfl (fun Γ K KR hnL hnm => ?_)
  show XW Γ N v [(0, .ref (B + o)), (1, .ref (B + 5))] 0 0 0 []
  have hco : ∀ k : Nat, (((m + k : Nat) : Int)) = (m : Int) + (k : Int) := fun k => by omega
  refine x_v (cel_pad hc1) ?_
  refine x_v (cel_pad (cel_ne hc2 (by decide))) ?_
  refine x_aload_n (pc := 0) 1 K rfl rfl dX1_mark_0 ?_
  refine x_bipush (pc := 1) K (by decide) dX1_mark_1 ?_
  refine x_callV (pc := 3) (C := RX9) (T := TX9) (n := 2) (ci := 8) (As := [.int (zI 23)]) K (c_X9_leave (E := E) (B := B) (N := N) (m := m)  (cel_ne (cel_self hc1.1) (by decide)) (cel_self hc2.1) (by omega)) gX1_mark_X9_leave rfl (na := 1) (by decide +kernel) rfl ⟨(Nat.le_of_ble_eq_true rfl), (Nat.le_of_ble_eq_true rfl)⟩ (cel_ne (cel_self hc1.1) (by decide)) rfl (st := []) rfl (Nat.le_of_ble_eq_true rfl) ⟨(Nat.le_of_ble_eq_true rfl), (Nat.le_of_ble_eq_true rfl)⟩ dX1_mark_3 (fun r3 N3 w3 hpo3 hN3 => ?_)
  obtain ⟨rfl, rfl, rfl⟩ := hpo3
  refine x_v (congrArg (fun w => (va_up w 6 (iarr E 16 (va_up tr m 23)))) (show (va_up (va_up v 5 (.inr (8, [.ref (B + 6), .int (zI ((m : Int) + 1))]))) 6 (iarr E 16 tr)) = _ from (up_at1 (by decide)).symm)) ?_
  refine x_v (w := (va_up (va_up v 5 (.inr (8, [.ref (B + 6), .int (zI ((m : Int) + 1))]))) 6 (iarr E 16 (va_up tr m 23)))) (up_at0).symm ?_
  refine x_st (st' := []) rfl ?_
  refine x_v (w := (va_up (va_up v 5 (.inr (8, [.ref (B + 6), .int (zI ((m : Int) + 1))]))) 6 (iarr E 16 (va_up tr m 23)))) (by first | rfl | (congr 5; omega)) ?_
  refine x_aload_n (pc := 6) 0 K rfl rfl dX1_mark_6 ?_
  refine x_aload_n (pc := 7) 1 K rfl rfl dX1_mark_7 ?_
  refine x_callSU (pc := 8) (C := RX5) (T := TX5) (n := 4) (ci := 5) (As := [.ref (B + 5)]) K (c_X6_mark_X5 (E := E) (B := B) (N := N) (m := (m + 1))  (cel_ne (cel_ne hc0 (by omega)) (by omega)) (cel_ne (cel_self hc1.1) (by decide)) (cel_self hc2.1) (by omega) (by omega)) gX1_mark_X6_mark_s19 rfl (na := 1) (by decide +kernel) rfl ⟨(Nat.le_of_ble_eq_true rfl), (Nat.le_of_ble_eq_true rfl)⟩ (cel_ne (cel_ne hc0 (by omega)) (by omega)) rfl (st := []) rfl (Nat.le_of_ble_eq_true rfl) ⟨(Nat.le_of_ble_eq_true rfl), (Nat.le_of_ble_eq_true rfl)⟩ dX1_mark_8 (fun r8 N8 w8 hpo8 hN8 => ?_)
  obtain ⟨rfl, rfl, rfl⟩ := hpo8
  refine x_v (congrArg (fun w => (va_up w 6 (iarr E 16 (va_up (va_up tr m 23) (m + 1) 20)))) (show (va_up (va_up v 5 (.inr (8, [.ref (B + 6), .int (zI (((m + 1) : Int) + 1))]))) 6 (iarr E 16 (va_up tr m 23))) = _ from (up_at1 (by decide)).symm)) ?_
  refine x_v (w := (va_up (va_up v 5 (.inr (8, [.ref (B + 6), .int (zI (((m + 1) : Int) + 1))]))) 6 (iarr E 16 (va_up (va_up tr m 23) (m + 1) 20)))) (up_at0).symm ?_
  refine x_st (st' := [.int (zI num)]) rfl ?_
  refine x_v (w := (va_up (va_up v 5 (.inr (8, [.ref (B + 6), .int (zI ((m : Int) + 2))]))) 6 (iarr E 16 (va_up (va_up tr m 23) (m + 1) 20)))) (by first | rfl | (congr 5; omega)) ?_
  refine x_istore_n (pc := 11) K (L' := [(2, .int (zI num)), (0, .ref (B + o)), (1, .ref (B + 5))]) hnL rfl (by decide) rfl dX1_mark_11 ?_
  refine x_iload_n (pc := 12) 0 K rfl rfl dX1_mark_12 ?_
  refine x_aload_n (pc := 13) 1 K rfl rfl dX1_mark_13 ?_
  refine x_aload_n (pc := 14) 2 K rfl rfl dX1_mark_14 ?_
  refine x_callO (pc := 15) (C := RX5) (T := TX5) (n := 4) (ci := 5) (As := [.ref (B + 5)]) (owner := "BorderBeds$Child") (x := ⟨"BorderBeds$Child", "size", "(LBorderBeds$Trace;)I"⟩) (b0 := cX1_size) (m0 := 2) (r0 := (some .int)) K (c_X5_size_X5 (E := E) (B := B) (N := N) (m := (m + 2))  (cel_ne (cel_ne hc0 (by omega)) (by omega)) (cel_ne (cel_self hc1.1) (by decide)) (cel_self hc2.1) (by omega) (by omega)) gX1_mark_X5_size_u22X5 rfl (by decide +kernel) (na := 1) (by decide +kernel) rfl ⟨(Nat.le_of_ble_eq_true rfl), (Nat.le_of_ble_eq_true rfl)⟩ (cel_ne (cel_ne hc0 (by omega)) (by omega)) rfl (st := [.int (zI num)]) rfl (Nat.le_of_ble_eq_true rfl) ⟨(Nat.le_of_ble_eq_true rfl), (Nat.le_of_ble_eq_true rfl)⟩ dX1_mark_15 (fun r15 N15 w15 hpo15 hN15 => ?_)
  obtain ⟨rfl, rfl, rfl⟩ := hpo15
  refine x_v (congrArg (fun w => (va_up w 6 (iarr E 16 (va_up (va_up (va_up (va_up (va_up tr m 23) (m + 1) 20) (m + 2) 14) ((m + 2) + 1) 13) ((m + 2) + 2) 10)))) (show (va_up (va_up v 5 (.inr (8, [.ref (B + 6), .int (zI (((m + 2) : Int) + 3))]))) 6 (iarr E 16 (va_up (va_up tr m 23) (m + 1) 20))) = _ from (up_at1 (by decide)).symm)) ?_
  refine x_v (w := (va_up (va_up v 5 (.inr (8, [.ref (B + 6), .int (zI (((m + 2) : Int) + 3))]))) 6 (iarr E 16 (va_up (va_up (va_up (va_up (va_up tr m 23) (m + 1) 20) (m + 2) 14) ((m + 2) + 1) 13) ((m + 2) + 2) 10)))) (up_at0).symm ?_
  refine x_st (st' := [.int (zI (2 * (mil - 100))), .int (zI num)]) rfl ?_
  refine x_v (w := (va_up (va_up v 5 (.inr (8, [.ref (B + 6), .int (zI ((m : Int) + 5))]))) 6 (iarr E 16 (va_up (va_up (va_up (va_up (va_up tr m 23) (m + 1) 20) (m + 2) 14) ((m + 2) + 1) 13) ((m + 2) + 2) 10)))) (by first | rfl | (congr 5; omega)) ?_
  refine x_isub (pc := 18) K dX1_mark_18 ?_
  refine x_iret (pc := 19) K KR (by omega) (Nat.le_of_ble_eq_true rfl) (Nat.le_of_ble_eq_true rfl) dX1_mark_19 ?_
  exact ⟨rfl, rfl, rfl⟩
