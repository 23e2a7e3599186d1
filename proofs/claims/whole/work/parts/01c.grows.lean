set_option maxRecDepth 20000 in
theorem ggX0_init_X6_init : GoodIn wsX0_init wsX6_init := goodIn_r _ [4, 5, 6, 7, 8, 9, 10, 11, 12, 13, 14, 15, 16, 17, 18, 19, 20, 21, 22, 23, 24, 25, 26, 27, 28, 29, 30, 31] (by decide +kernel) (by decide +kernel)
set_option maxRecDepth 20000 in
theorem gX0_init_X6_init : GoodIn wsX0_init (wsX6_init) := ggX0_init_X6_init
set_option maxRecDepth 20000 in
theorem ggX0_size_X9_leave : GoodIn wsX0_size wsX9_leave := goodIn_r _ [5, 6, 7, 45, 46] (by decide +kernel) (by decide +kernel)
set_option maxRecDepth 20000 in
theorem gX0_size_X9_leave : GoodIn wsX0_size (wsV RX0 9 RX9 yX9_leave wsX9_leave) := goodIn_app (goodIn_of _ (by decide +kernel)) ggX0_size_X9_leave
set_option maxRecDepth 20000 in
theorem ggX0_size_X6_size : GoodIn wsX0_size wsX6_size := goodIn_r _ [13, 14, 15, 2, 3, 4, 5, 6, 7, 47, 48, 49, 50, 51, 52, 53, 54, 55, 56, 57, 58, 59, 60, 61, 62, 63, 64, 65, 66, 45, 46] (by decide +kernel) (by decide +kernel)
set_option maxRecDepth 20000 in
theorem gX0_size_X6_size_s15 : GoodIn wsX0_size (va_wsSU RX0 15 yX6_size wsX6_size) := goodIn_app (goodIn_of _ (by decide +kernel)) ggX0_size_X6_size
set_option maxRecDepth 20000 in
theorem ggX0_size_X0_mark : GoodIn wsX0_size wsX0_mark := goodIn_r _ [20, 21, 22, 1, 2, 3, 4, 5, 6, 7, 23, 24, 10, 25, 12, 26, 27, 15, 47, 48, 49, 50, 51, 52, 53, 54, 55, 56, 57, 58, 59, 60, 61, 62, 63, 64, 65, 66, 45, 46] (by decide +kernel) (by decide +kernel)
set_option maxRecDepth 20000 in
theorem gX0_size_X0_mark : GoodIn wsX0_size (wsV RX0 19 RX0 yX0_mark wsX0_mark) := goodIn_app (goodIn_of _ (by decide +kernel)) ggX0_size_X0_mark
set_option maxRecDepth 20000 in
theorem ggX0_size_X2_mark : GoodIn wsX0_size wsX2_mark := goodIn_r _ [34, 35, 2, 3, 4, 5, 6, 7, 36, 29, 37, 17, 19, 20, 21, 22, 1, 23, 24, 10, 25, 12, 26, 27, 15, 45, 46, 47, 48, 49, 50, 51, 52, 53, 54, 55, 56, 57, 58, 59, 60, 61, 62, 63, 64, 65, 66] (by decide +kernel) (by decide +kernel)
set_option maxRecDepth 20000 in
theorem gX0_size_X2_mark_u19X2 : GoodIn wsX0_size (va_wsO RX0 19 RX2 "BorderBeds$Aunt" ⟨"BorderBeds$Aunt", "mark", "(LBorderBeds$Trace;)I"⟩ yX2_mark wsX2_mark) := goodIn_app (goodIn_of _ (by decide +kernel)) ggX0_size_X2_mark
set_option maxRecDepth 20000 in
theorem ggX0_size_X10_mark : GoodIn wsX0_size wsX10_mark := goodIn_r _ [41, 42, 2, 3, 4, 5, 6, 7, 43, 29, 44, 17, 19, 20, 21, 22, 1, 23, 24, 10, 25, 12, 26, 27, 15, 45, 46, 47, 48, 49, 50, 51, 52, 53, 54, 55, 56, 57, 58, 59, 60, 61, 62, 63, 64, 65, 66] (by decide +kernel) (by decide +kernel)
set_option maxRecDepth 20000 in
theorem gX0_size_X10_mark_u19X10 : GoodIn wsX0_size (va_wsO RX0 19 RX10 "BorderBeds$Aunt" ⟨"BorderBeds$Aunt", "mark", "(LBorderBeds$Trace;)I"⟩ yX10_mark wsX10_mark) := goodIn_app (goodIn_of _ (by decide +kernel)) ggX0_size_X10_mark
set_option maxRecDepth 20000 in
theorem ggX0_mark_X9_leave : GoodIn wsX0_mark wsX9_leave := goodIn_r _ [7, 8, 9, 38, 39] (by decide +kernel) (by decide +kernel)
set_option maxRecDepth 20000 in
theorem gX0_mark_X9_leave : GoodIn wsX0_mark (wsV RX0 9 RX9 yX9_leave wsX9_leave) := goodIn_app (goodIn_of _ (by decide +kernel)) ggX0_mark_X9_leave
set_option maxRecDepth 20000 in
theorem ggX0_mark_X6_mark : GoodIn wsX0_mark wsX6_mark := goodIn_r _ [15, 16, 17, 4, 5, 6, 7, 8, 9, 18, 19, 20, 21, 22, 23, 24, 25, 26, 27, 28, 29, 30, 31, 32, 33, 34, 35, 36, 37, 38, 39] (by decide +kernel) (by decide +kernel)
set_option maxRecDepth 20000 in
theorem gX0_mark_X6_mark_s22 : GoodIn wsX0_mark (va_wsSU RX0 22 yX6_mark wsX6_mark) := goodIn_app (goodIn_of _ (by decide +kernel)) ggX0_mark_X6_mark
set_option maxRecDepth 20000 in
theorem ggX1_init_X6_init : GoodIn wsX1_init wsX6_init := goodIn_r _ [4, 5, 6, 7, 8, 9, 10, 11, 12, 13, 14, 15, 16, 17, 18, 19, 20, 21, 22, 23, 24, 25, 26, 27, 28, 29, 30, 31] (by decide +kernel) (by decide +kernel)
set_option maxRecDepth 20000 in
theorem gX1_init_X6_init : GoodIn wsX1_init (wsX6_init) := ggX1_init_X6_init
set_option maxRecDepth 20000 in
theorem ggX1_size_X9_leave : GoodIn wsX1_size wsX9_leave := goodIn_r _ [5, 6, 7, 16, 17] (by decide +kernel) (by decide +kernel)
set_option maxRecDepth 20000 in
theorem gX1_size_X9_leave : GoodIn wsX1_size (wsV RX1 9 RX9 yX9_leave wsX9_leave) := goodIn_app (goodIn_of _ (by decide +kernel)) ggX1_size_X9_leave
set_option maxRecDepth 20000 in
theorem ggX1_size_X6_size : GoodIn wsX1_size wsX6_size := goodIn_r _ [13, 14, 15, 2, 3, 4, 5, 6, 7, 18, 19, 20, 21, 22, 23, 24, 25, 26, 27, 28, 29, 30, 31, 32, 33, 34, 35, 36, 37, 16, 17] (by decide +kernel) (by decide +kernel)
set_option maxRecDepth 20000 in
theorem gX1_size_X6_size_s15 : GoodIn wsX1_size (va_wsSU RX1 15 yX6_size wsX6_size) := goodIn_app (goodIn_of _ (by decide +kernel)) ggX1_size_X6_size
set_option maxRecDepth 20000 in
theorem ggX1_mark_X9_leave : GoodIn wsX1_mark wsX9_leave := goodIn_r _ [5, 6, 7, 36, 37] (by decide +kernel) (by decide +kernel)
set_option maxRecDepth 20000 in
theorem gX1_mark_X9_leave : GoodIn wsX1_mark (wsV RX1 9 RX9 yX9_leave wsX9_leave) := goodIn_app (goodIn_of _ (by decide +kernel)) ggX1_mark_X9_leave
set_option maxRecDepth 20000 in
theorem ggX1_mark_X6_mark : GoodIn wsX1_mark wsX6_mark := goodIn_r _ [13, 14, 15, 2, 3, 4, 5, 6, 7, 38, 39, 40, 41, 42, 43, 44, 45, 46, 47, 48, 49, 50, 51, 52, 53, 54, 55, 56, 57, 36, 37] (by decide +kernel) (by decide +kernel)
set_option maxRecDepth 20000 in
theorem gX1_mark_X6_mark_s19 : GoodIn wsX1_mark (va_wsSU RX1 19 yX6_mark wsX6_mark) := goodIn_app (goodIn_of _ (by decide +kernel)) ggX1_mark_X6_mark
set_option maxRecDepth 20000 in
theorem ggX1_mark_X1_size : GoodIn wsX1_mark wsX1_size := goodIn_r _ [20, 1, 2, 3, 4, 5, 6, 7, 21, 22, 10, 23, 12, 24, 25, 15, 36, 37, 38, 39, 40, 41, 42, 43, 44, 45, 46, 47, 48, 49, 50, 51, 52, 53, 54, 55, 56, 57] (by decide +kernel) (by decide +kernel)
set_option maxRecDepth 20000 in
theorem gX1_mark_X1_size : GoodIn wsX1_mark (wsV RX1 22 RX1 yX1_size wsX1_size) := goodIn_app (goodIn_of _ (by decide +kernel)) ggX1_mark_X1_size
set_option maxRecDepth 20000 in
theorem ggX1_mark_X5_size : GoodIn wsX1_mark wsX5_size := goodIn_r _ [32, 33, 2, 3, 4, 5, 6, 7, 34, 27, 35, 17, 19, 20, 1, 21, 22, 10, 23, 12, 24, 25, 15, 36, 37, 38, 39, 40, 41, 42, 43, 44, 45, 46, 47, 48, 49, 50, 51, 52, 53, 54, 55, 56, 57] (by decide +kernel) (by decide +kernel)
set_option maxRecDepth 20000 in
theorem gX1_mark_X5_size_u22X5 : GoodIn wsX1_mark (va_wsO RX1 22 RX5 "BorderBeds$Child" ⟨"BorderBeds$Child", "size", "(LBorderBeds$Trace;)I"⟩ yX5_size wsX5_size) := goodIn_app (goodIn_of _ (by decide +kernel)) ggX1_mark_X5_size
set_option maxRecDepth 20000 in
theorem ggX2_init_X0_init : GoodIn wsX2_init wsX0_init := goodIn_r _ [4, 5, 6, 7, 8, 9, 10, 11, 12, 13, 14, 15, 16, 17, 18, 19, 20, 21, 22, 23, 24, 25, 26, 27, 28, 29, 30, 31, 32, 33, 34, 35] (by decide +kernel) (by decide +kernel)
set_option maxRecDepth 20000 in
theorem gX2_init_X0_init : GoodIn wsX2_init (wsX0_init) := ggX2_init_X0_init
set_option maxRecDepth 20000 in
theorem ggX2_size_X9_leave : GoodIn wsX2_size wsX9_leave := goodIn_r _ [5, 6, 7, 49, 50] (by decide +kernel) (by decide +kernel)
set_option maxRecDepth 20000 in
theorem gX2_size_X9_leave : GoodIn wsX2_size (wsV RX2 13 RX9 yX9_leave wsX9_leave) := goodIn_app (goodIn_of _ (by decide +kernel)) ggX2_size_X9_leave
set_option maxRecDepth 20000 in
theorem ggX2_size_X0_size : GoodIn wsX2_size wsX0_size := goodIn_r _ [13, 14, 2, 3, 4, 5, 6, 7, 15, 16, 17, 18, 19, 20, 21, 22, 23, 24, 25, 12, 26, 27, 28, 29, 30, 31, 32, 33, 34, 35, 36, 37, 38, 39, 40, 1, 41, 10, 42, 43, 44, 45, 46, 47, 48, 49, 50, 51, 52, 53, 54, 55, 56, 57, 58, 59, 60, 61, 62, 63, 64, 65, 66, 67, 68, 69, 70] (by decide +kernel) (by decide +kernel)
set_option maxRecDepth 20000 in
theorem gX2_size_X0_size_s19 : GoodIn wsX2_size (va_wsSU RX2 19 yX0_size wsX0_size) := goodIn_app (goodIn_of _ (by decide +kernel)) ggX2_size_X0_size
set_option maxRecDepth 20000 in
theorem ggX2_mark_X9_leave : GoodIn wsX2_mark wsX9_leave := goodIn_r _ [5, 6, 7, 25, 26] (by decide +kernel) (by decide +kernel)
set_option maxRecDepth 20000 in
theorem gX2_mark_X9_leave : GoodIn wsX2_mark (wsV RX2 13 RX9 yX9_leave wsX9_leave) := goodIn_app (goodIn_of _ (by decide +kernel)) ggX2_mark_X9_leave
set_option maxRecDepth 20000 in
theorem ggX2_mark_X0_mark : GoodIn wsX2_mark wsX0_mark := goodIn_r _ [13, 14, 15, 16, 2, 3, 4, 5, 6, 7, 17, 18, 19, 20, 21, 22, 23, 24, 27, 28, 29, 30, 31, 32, 33, 34, 35, 36, 37, 38, 39, 40, 41, 42, 43, 44, 45, 46, 25, 26] (by decide +kernel) (by decide +kernel)
set_option maxRecDepth 20000 in
theorem gX2_mark_X0_mark_s23 : GoodIn wsX2_mark (va_wsSU RX2 23 yX0_mark wsX0_mark) := goodIn_app (goodIn_of _ (by decide +kernel)) ggX2_mark_X0_mark
set_option maxRecDepth 20000 in
theorem ggX3_init_X4_init : GoodIn wsX3_init wsX4_init := goodIn_r _ [23, 24, 2, 3, 7, 25, 9, 26, 27, 28, 29, 41, 42, 43, 44, 45] (by decide +kernel) (by decide +kernel)
set_option maxRecDepth 20000 in
theorem gX3_init_X4_init_n48 : GoodIn wsX3_init (wsX4_init) := ggX3_init_X4_init
set_option maxRecDepth 20000 in
theorem ggX3_addPerson_X3_personOf : GoodIn wsX3_addPerson wsX3_personOf := goodIn_r _ [6, 7, 8, 9, 10, 11, 12, 13, 14, 15, 16, 17, 18, 19, 20, 21, 22, 23, 24, 25, 26, 27, 28, 29, 30, 31, 32, 33, 34, 35, 36, 37, 38, 39, 40, 41, 42, 43, 44, 45, 46, 47, 48, 49, 50, 51, 63, 64, 65, 66, 67, 68, 69, 70, 71, 72, 73, 74, 75, 76, 77, 78, 79, 80, 81, 82] (by decide +kernel) (by decide +kernel)
set_option maxRecDepth 20000 in
theorem gX3_addPerson_X3_personOf : GoodIn wsX3_addPerson (va_wsS RX3 56 yX3_personOf wsX3_personOf) := goodIn_app (goodIn_of _ (by decide +kernel)) ggX3_addPerson_X3_personOf
set_option maxRecDepth 20000 in
theorem ggX3_personOf_X0_init : GoodIn wsX3_personOf wsX0_init := goodIn_r _ [18, 19, 20, 21, 22, 23, 24, 25, 26, 27, 28, 29, 46, 47, 48, 49, 58, 59, 60, 61, 50, 51, 52, 53, 62, 63, 64, 65, 54, 55, 56, 57] (by decide +kernel) (by decide +kernel)
set_option maxRecDepth 20000 in
theorem gX3_personOf_X0_init : GoodIn wsX3_personOf (wsX0_init) := ggX3_personOf_X0_init
set_option maxRecDepth 20000 in
theorem ggX3_personOf_X2_init : GoodIn wsX3_personOf wsX2_init := goodIn_r _ [32, 33, 17, 3, 18, 19, 20, 21, 22, 23, 24, 25, 26, 27, 28, 29, 46, 47, 48, 49, 58, 59, 60, 61, 50, 51, 52, 53, 62, 63, 64, 65, 54, 55, 56, 57] (by decide +kernel) (by decide +kernel)
set_option maxRecDepth 20000 in
theorem gX3_personOf_X2_init : GoodIn wsX3_personOf (wsX2_init) := ggX3_personOf_X2_init
set_option maxRecDepth 20000 in
theorem ggX3_personOf_X10_init : GoodIn wsX3_personOf wsX10_init := goodIn_r _ [36, 37, 17, 3, 18, 19, 20, 21, 22, 23, 24, 25, 26, 27, 28, 29, 46, 47, 48, 49, 58, 59, 60, 61, 50, 51, 52, 53, 62, 63, 64, 65, 54, 55, 56, 57] (by decide +kernel) (by decide +kernel)
set_option maxRecDepth 20000 in
theorem gX3_personOf_X10_init : GoodIn wsX3_personOf (wsX10_init) := ggX3_personOf_X10_init
set_option maxRecDepth 20000 in
theorem ggX3_personOf_X1_init : GoodIn wsX3_personOf wsX1_init := goodIn_r _ [40, 41, 20, 21, 22, 23, 24, 25, 26, 27, 28, 29, 46, 47, 48, 49, 58, 59, 60, 61, 50, 51, 52, 53, 62, 63, 64, 65, 54, 55, 56, 57] (by decide +kernel) (by decide +kernel)
set_option maxRecDepth 20000 in
theorem gX3_personOf_X1_init : GoodIn wsX3_personOf (wsX1_init) := ggX3_personOf_X1_init
set_option maxRecDepth 20000 in
theorem ggX3_personOf_X5_init : GoodIn wsX3_personOf wsX5_init := goodIn_r _ [44, 45, 39, 12, 40, 41, 20, 21, 22, 23, 24, 25, 26, 27, 28, 29, 46, 47, 48, 49, 58, 59, 60, 61, 50, 51, 52, 53, 62, 63, 64, 65, 54, 55, 56, 57] (by decide +kernel) (by decide +kernel)
set_option maxRecDepth 20000 in
theorem gX3_personOf_X5_init : GoodIn wsX3_personOf (wsX5_init) := ggX3_personOf_X5_init
set_option maxRecDepth 20000 in
theorem ggX3_leadOf_X3_worthOf : GoodIn wsX3_leadOf wsX3_worthOf := goodIn_r _ [5, 6, 7, 8, 9, 10, 11, 12, 13, 14, 15, 16, 17, 18, 19, 20, 21, 22, 23, 24] (by decide +kernel) (by decide +kernel)
set_option maxRecDepth 20000 in
theorem gX3_leadOf_X3_worthOf : GoodIn wsX3_leadOf (wsV RX3 83 RX3 yX3_worthOf wsX3_worthOf) := goodIn_app (goodIn_of _ (by decide +kernel)) ggX3_leadOf_X3_worthOf
set_option maxRecDepth 20000 in
theorem ggX3_mayCross_X6_reach : GoodIn wsX3_mayCross wsX6_reach := goodIn_r _ [13, 14, 32, 33, 34, 35, 36, 37, 38, 39, 40, 41, 42, 43, 44, 45, 46, 47, 48, 49, 50, 51] (by decide +kernel) (by decide +kernel)
set_option maxRecDepth 20000 in
theorem gX3_mayCross_X6_reach_u96X0 : GoodIn wsX3_mayCross (va_wsU RX3 96 RX0 "BorderBeds$Person" ⟨"BorderBeds$Person", "reach", "()I"⟩ yX6_reach wsX6_reach) := goodIn_app (goodIn_of _ (by decide +kernel)) ggX3_mayCross_X6_reach
set_option maxRecDepth 20000 in
theorem gX3_mayCross_X6_reach_u96X1 : GoodIn wsX3_mayCross (va_wsU RX3 96 RX1 "BorderBeds$Person" ⟨"BorderBeds$Person", "reach", "()I"⟩ yX6_reach wsX6_reach) := goodIn_app (goodIn_of _ (by decide +kernel)) ggX3_mayCross_X6_reach
set_option maxRecDepth 20000 in
theorem ggX3_mayCross_X2_reach : GoodIn wsX3_mayCross wsX2_reach := goodIn_r _ [20, 21, 22, 32, 33, 34, 35, 36, 37, 38, 39, 40, 41, 42, 43, 44, 45, 46, 47, 48, 49, 50, 51] (by decide +kernel) (by decide +kernel)
set_option maxRecDepth 20000 in
theorem gX3_mayCross_X2_reach_u96X2 : GoodIn wsX3_mayCross (va_wsO RX3 96 RX2 "BorderBeds$Person" ⟨"BorderBeds$Person", "reach", "()I"⟩ yX2_reach wsX2_reach) := goodIn_app (goodIn_of _ (by decide +kernel)) ggX3_mayCross_X2_reach
set_option maxRecDepth 20000 in
theorem gX3_mayCross_X6_reach_u96X5 : GoodIn wsX3_mayCross (va_wsU RX3 96 RX5 "BorderBeds$Person" ⟨"BorderBeds$Person", "reach", "()I"⟩ yX6_reach wsX6_reach) := goodIn_app (goodIn_of _ (by decide +kernel)) ggX3_mayCross_X6_reach
set_option maxRecDepth 20000 in
theorem gX3_mayCross_X6_reach_u96X10 : GoodIn wsX3_mayCross (va_wsU RX3 96 RX10 "BorderBeds$Person" ⟨"BorderBeds$Person", "reach", "()I"⟩ yX6_reach wsX6_reach) := goodIn_app (goodIn_of _ (by decide +kernel)) ggX3_mayCross_X6_reach
set_option maxRecDepth 20000 in
theorem ggX3_mayCross_X4_ownerOf : GoodIn wsX3_mayCross wsX4_ownerOf := goodIn_r _ [29, 30, 31, 63, 64, 65, 66, 67] (by decide +kernel) (by decide +kernel)
set_option maxRecDepth 20000 in
theorem gX3_mayCross_X4_ownerOf : GoodIn wsX3_mayCross (wsV RX3 100 RX4 yX4_ownerOf wsX4_ownerOf) := goodIn_app (goodIn_of _ (by decide +kernel)) ggX3_mayCross_X4_ownerOf
set_option maxRecDepth 20000 in
theorem ggX3_waysOf_X3_mayCross : GoodIn wsX3_waysOf wsX3_mayCross := goodIn_r _ [5, 6, 7, 8, 9, 10, 11, 12, 13, 14, 15, 16, 17, 18, 19, 20, 21, 22, 23, 24, 25, 26, 27, 28, 29, 30, 31, 32, 33, 34, 35, 36, 37, 38, 39, 40, 41, 42, 43, 44, 45, 46, 47, 48, 49, 50, 51, 52, 53, 54, 55, 56, 57, 58, 59, 60, 61, 62, 63, 64, 65, 66, 67, 68, 69, 70, 71, 72] (by decide +kernel) (by decide +kernel)
set_option maxRecDepth 20000 in
theorem gX3_waysOf_X3_mayCross : GoodIn wsX3_waysOf (wsV RX3 106 RX3 yX3_mayCross wsX3_mayCross) := goodIn_app (goodIn_of _ (by decide +kernel)) ggX3_waysOf_X3_mayCross
set_option maxRecDepth 20000 in
theorem ggX3_guessed_X4_become : GoodIn wsX3_guessed wsX4_become := goodIn_r _ [6, 7, 8, 9, 10, 11, 12, 13, 14, 15, 64, 65, 66, 67, 68] (by decide +kernel) (by decide +kernel)
set_option maxRecDepth 20000 in
theorem gX3_guessed_X4_become : GoodIn wsX3_guessed (wsV RX3 110 RX4 yX4_become wsX4_become) := goodIn_app (goodIn_of _ (by decide +kernel)) ggX3_guessed_X4_become
set_option maxRecDepth 20000 in
theorem ggX3_guessed_X4_move : GoodIn wsX3_guessed wsX4_move := goodIn_r _ [19, 20, 21, 22, 7, 23, 24, 25, 26, 27, 28, 5, 29, 8, 13, 30, 31, 32, 33, 34, 35, 36, 37, 38, 39, 40, 41, 42, 43, 44, 45, 46, 47, 48, 49, 50, 51, 52, 14, 15, 64, 65, 66, 67, 68, 53, 54, 55, 56, 57, 58, 59, 60, 61, 62, 63] (by decide +kernel) (by decide +kernel)
set_option maxRecDepth 20000 in
theorem gX3_guessed_X4_move : GoodIn wsX3_guessed (wsV RX3 114 RX4 yX4_move wsX4_move) := goodIn_app (goodIn_of _ (by decide +kernel)) ggX3_guessed_X4_move
set_option maxRecDepth 20000 in
theorem ggX3_leadBehind_X3_guessed : GoodIn wsX3_leadBehind wsX3_guessed := goodIn_r _ [6, 7, 8, 9, 10, 11, 12, 13, 14, 15, 16, 17, 18, 19, 20, 21, 22, 23, 24, 25, 26, 27, 28, 29, 30, 31, 32, 33, 34, 35, 36, 37, 38, 39, 40, 41, 42, 43, 44, 45, 46, 47, 48, 49, 50, 51, 52, 53, 54, 55, 56, 57, 58, 90, 91, 92, 93, 94, 95, 96, 97, 98, 99, 100, 101, 102, 103, 104, 105] (by decide +kernel) (by decide +kernel)
set_option maxRecDepth 20000 in
theorem gX3_leadBehind_X3_guessed : GoodIn wsX3_leadBehind (wsV RX3 118 RX3 yX3_guessed wsX3_guessed) := goodIn_app (goodIn_of _ (by decide +kernel)) ggX3_leadBehind_X3_guessed
set_option maxRecDepth 20000 in
theorem ggX3_leadBehind_X3_leadOf : GoodIn wsX3_leadBehind wsX3_leadOf := goodIn_r _ [62, 63, 64, 65, 5, 66, 67, 68, 69, 90, 91, 92, 93, 94, 95, 96, 97, 98, 99, 100, 101, 102, 103, 104, 105] (by decide +kernel) (by decide +kernel)
set_option maxRecDepth 20000 in
theorem gX3_leadBehind_X3_leadOf : GoodIn wsX3_leadBehind (wsV RX3 122 RX3 yX3_leadOf wsX3_leadOf) := goodIn_app (goodIn_of _ (by decide +kernel)) ggX3_leadBehind_X3_leadOf
set_option maxRecDepth 20000 in
theorem ggX3_bestOf_X3_mayCross : GoodIn wsX3_bestOf wsX3_mayCross := goodIn_r _ [7, 8, 9, 10, 11, 12, 13, 2, 14, 15, 16, 17, 18, 19, 20, 21, 22, 23, 24, 25, 26, 27, 28, 29, 30, 31, 32, 33, 34, 35, 36, 37, 106, 107, 108, 109, 110, 111, 112, 113, 114, 115, 116, 117, 118, 119, 120, 121, 122, 123, 124, 125, 126, 127, 128, 129, 130, 131, 132, 133, 134, 135, 136, 137, 138, 139, 140, 141] (by decide +kernel) (by decide +kernel)
set_option maxRecDepth 20000 in
theorem gX3_bestOf_X3_mayCross : GoodIn wsX3_bestOf (wsV RX3 106 RX3 yX3_mayCross wsX3_mayCross) := goodIn_app (goodIn_of _ (by decide +kernel)) ggX3_bestOf_X3_mayCross
set_option maxRecDepth 20000 in
theorem ggX3_bestOf_X3_guessed : GoodIn wsX3_bestOf wsX3_guessed := goodIn_r _ [41, 42, 43, 44, 45, 34, 46, 47, 48, 49, 50, 51, 52, 53, 36, 37, 54, 55, 56, 57, 58, 59, 60, 61, 62, 63, 64, 65, 66, 67, 68, 69, 70, 71, 72, 73, 74, 75, 76, 77, 78, 79, 80, 81, 82, 83, 84, 85, 86, 87, 88, 89, 90, 126, 127, 128, 129, 130, 131, 132, 133, 134, 135, 136, 137, 138, 139, 140, 141] (by decide +kernel) (by decide +kernel)
set_option maxRecDepth 20000 in
theorem gX3_bestOf_X3_guessed : GoodIn wsX3_bestOf (wsV RX3 118 RX3 yX3_guessed wsX3_guessed) := goodIn_app (goodIn_of _ (by decide +kernel)) ggX3_bestOf_X3_guessed
set_option maxRecDepth 20000 in
theorem ggX3_bestOf_X3_leadOf : GoodIn wsX3_bestOf wsX3_leadOf := goodIn_r _ [94, 95, 96, 97, 6, 98, 99, 100, 101, 126, 127, 128, 129, 130, 131, 132, 133, 134, 135, 136, 137, 138, 139, 140, 141] (by decide +kernel) (by decide +kernel)
set_option maxRecDepth 20000 in
theorem gX3_bestOf_X3_leadOf : GoodIn wsX3_bestOf (wsV RX3 122 RX3 yX3_leadOf wsX3_leadOf) := goodIn_app (goodIn_of _ (by decide +kernel)) ggX3_bestOf_X3_leadOf
set_option maxRecDepth 20000 in
theorem ggX3_bestOf_X3_cellsOf : GoodIn wsX3_bestOf wsX3_cellsOf := goodIn_r _ [105, 100, 101, 137, 138, 139, 140, 141] (by decide +kernel) (by decide +kernel)
set_option maxRecDepth 20000 in
theorem gX3_bestOf_X3_cellsOf : GoodIn wsX3_bestOf (wsV RX3 126 RX3 yX3_cellsOf wsX3_cellsOf) := goodIn_app (goodIn_of _ (by decide +kernel)) ggX3_bestOf_X3_cellsOf
set_option maxRecDepth 20000 in
theorem ggX3_lineBehind_X4_become : GoodIn wsX3_lineBehind wsX4_become := goodIn_r _ [6, 7, 8, 9, 10, 11, 12, 13, 14, 15, 67, 68, 69, 70, 71] (by decide +kernel) (by decide +kernel)
set_option maxRecDepth 20000 in
theorem gX3_lineBehind_X4_become : GoodIn wsX3_lineBehind (wsV RX3 110 RX4 yX4_become wsX4_become) := goodIn_app (goodIn_of _ (by decide +kernel)) ggX3_lineBehind_X4_become
set_option maxRecDepth 20000 in
theorem ggX3_lineBehind_X11_isCell : GoodIn wsX3_lineBehind wsX11_isCell := goodIn_r _ [18] (by decide +kernel) (by decide +kernel)
set_option maxRecDepth 20000 in
theorem gX3_lineBehind_X11_isCell_n129 : GoodIn wsX3_lineBehind (wsX11_isCell) := ggX3_lineBehind_X11_isCell
set_option maxRecDepth 20000 in
theorem ggX3_lineBehind_X4_move : GoodIn wsX3_lineBehind wsX4_move := goodIn_r _ [22, 23, 24, 25, 7, 26, 27, 28, 29, 30, 31, 5, 32, 8, 13, 33, 34, 35, 36, 37, 38, 39, 40, 41, 42, 43, 44, 45, 46, 47, 48, 49, 50, 51, 52, 53, 54, 55, 14, 15, 67, 68, 69, 70, 71, 56, 57, 58, 59, 60, 61, 62, 63, 64, 65, 66] (by decide +kernel) (by decide +kernel)
set_option maxRecDepth 20000 in
theorem gX3_lineBehind_X4_move : GoodIn wsX3_lineBehind (wsV RX3 114 RX4 yX4_move wsX4_move) := goodIn_app (goodIn_of _ (by decide +kernel)) ggX3_lineBehind_X4_move
set_option maxRecDepth 20000 in
theorem ggX3_leadPlayed_X3_lineBehind : GoodIn wsX3_leadPlayed wsX3_lineBehind := goodIn_r _ [8, 9, 10, 11, 12, 13, 14, 15, 16, 17, 18, 19, 20, 21, 22, 23, 24, 25, 26, 27, 28, 29, 30, 31, 32, 33, 34, 35, 36, 37, 38, 39, 40, 41, 42, 43, 44, 45, 46, 47, 48, 49, 50, 51, 52, 53, 54, 55, 56, 57, 58, 59, 60, 61, 62, 63, 142, 143, 144, 145, 146, 147, 148, 149, 150, 151, 152, 153, 154, 155, 156, 157] (by decide +kernel) (by decide +kernel)
set_option maxRecDepth 20000 in
theorem gX3_leadPlayed_X3_lineBehind : GoodIn wsX3_leadPlayed (wsV RX3 133 RX3 yX3_lineBehind wsX3_lineBehind) := goodIn_app (goodIn_of _ (by decide +kernel)) ggX3_leadPlayed_X3_lineBehind
set_option maxRecDepth 20000 in
theorem ggX3_leadPlayed_X3_bestOf : GoodIn wsX3_leadPlayed wsX3_bestOf := goodIn_r _ [67, 1, 2, 68, 69, 70, 7, 71, 72, 73, 74, 75, 76, 77, 78, 79, 80, 81, 82, 83, 84, 85, 86, 87, 88, 89, 90, 91, 92, 93, 94, 95, 96, 97, 13, 98, 22, 23, 99, 100, 101, 102, 3, 10, 11, 12, 14, 15, 16, 17, 18, 19, 20, 21, 27, 28, 29, 30, 31, 32, 33, 34, 35, 36, 37, 38, 39, 40, 41, 42, 43, 44, 45, 46, 47, 48, 49, 50, 51, 52, 53, 54, 55, 56, 57, 58, 59, 60, 61, 62, 63, 103, 104, 105, 106, 107, 108, 109, 110, 111, 112, 113, 114, 115, 116, 117, 122, 123, 124, 125, 126, 127, 128, 129, 130, 131, 132, 133, 134, 135, 136, 137, 138, 139, 140, 141, 142, 143, 144, 145, 146, 147, 148, 149, 150, 151, 152, 153, 154, 155, 156, 157] (by decide +kernel) (by decide +kernel)
set_option maxRecDepth 20000 in
theorem gX3_leadPlayed_X3_bestOf : GoodIn wsX3_leadPlayed (wsV RX3 136 RX3 yX3_bestOf wsX3_bestOf) := goodIn_app (goodIn_of _ (by decide +kernel)) ggX3_leadPlayed_X3_bestOf
set_option maxRecDepth 20000 in
theorem ggX3_leadPlayed_X3_leadBehind : GoodIn wsX3_leadPlayed wsX3_leadBehind := goodIn_r _ [121, 2, 99, 100, 101, 7, 102, 3, 10, 11, 12, 13, 14, 15, 16, 17, 18, 19, 20, 21, 22, 23, 27, 28, 29, 30, 31, 32, 33, 34, 35, 36, 37, 38, 39, 40, 41, 42, 43, 44, 45, 46, 47, 48, 49, 50, 51, 52, 53, 54, 55, 56, 57, 58, 59, 60, 61, 62, 63, 103, 104, 105, 106, 107, 108, 109, 110, 111, 112, 113, 122, 123, 124, 125, 126, 127, 128, 129, 130, 131, 132, 133, 134, 135, 136, 137, 138, 139, 140, 141, 142, 143, 144, 145, 146, 147, 148, 149, 150, 151, 152, 153, 154, 155, 156, 157] (by decide +kernel) (by decide +kernel)
set_option maxRecDepth 20000 in
theorem gX3_leadPlayed_X3_leadBehind : GoodIn wsX3_leadPlayed (wsV RX3 140 RX3 yX3_leadBehind wsX3_leadBehind) := goodIn_app (goodIn_of _ (by decide +kernel)) ggX3_leadPlayed_X3_leadBehind
set_option maxRecDepth 20000 in
theorem ggX3_leadPlayed_X3_leadOf : GoodIn wsX3_leadPlayed wsX3_leadOf := goodIn_r _ [106, 107, 108, 109, 7, 110, 111, 112, 113, 142, 143, 144, 145, 146, 147, 148, 149, 150, 151, 152, 153, 154, 155, 156, 157] (by decide +kernel) (by decide +kernel)
set_option maxRecDepth 20000 in
theorem gX3_leadPlayed_X3_leadOf : GoodIn wsX3_leadPlayed (wsV RX3 122 RX3 yX3_leadOf wsX3_leadOf) := goodIn_app (goodIn_of _ (by decide +kernel)) ggX3_leadPlayed_X3_leadOf
set_option maxRecDepth 20000 in
theorem ggX3_heldCells_X3_isHeld : GoodIn wsX3_heldCells wsX3_isHeld := goodIn_r _ [6, 7, 8, 9, 10, 11, 12, 5, 13, 14, 15, 16, 17, 18, 19, 20, 21, 22, 23, 24, 25, 26, 27, 28, 29, 30, 31, 32, 33, 34, 35, 36, 37, 38, 39, 40, 41, 42, 43, 44, 45, 46, 47, 48, 49, 50, 51, 52, 53, 54, 55, 56, 57, 58, 59, 60, 61, 62, 63, 64, 65, 66, 67, 68, 69, 70, 71, 72, 73, 74, 75, 76, 77, 78, 79, 80, 81, 82, 83, 84, 85, 86, 87, 88, 89, 90, 91, 92, 93, 94, 95, 96, 97, 98, 99, 100, 101, 102, 103, 104, 105, 106, 107, 108, 109, 110, 111, 112, 113, 114, 115, 116, 117, 118, 119, 120, 121, 122, 123, 124, 125, 126, 127, 128, 129, 130, 131, 132, 133, 134, 135, 136, 137, 138, 139] (by decide +kernel) (by decide +kernel)
set_option maxRecDepth 20000 in
theorem gX3_heldCells_X3_isHeld : GoodIn wsX3_heldCells (wsV RX3 144 RX3 yX3_isHeld wsX3_isHeld) := goodIn_app (goodIn_of _ (by decide +kernel)) ggX3_heldCells_X3_isHeld
set_option maxRecDepth 20000 in
theorem ggX3_isHeld_X3_mayCross : GoodIn wsX3_isHeld wsX3_mayCross := goodIn_r _ [8, 9, 10, 11, 12, 13, 14, 3, 15, 16, 17, 18, 19, 20, 21, 22, 23, 24, 25, 26, 27, 28, 29, 30, 31, 32, 33, 34, 35, 36, 37, 38, 110, 111, 112, 113, 114, 115, 116, 117, 118, 119, 120, 121, 122, 123, 124, 125, 126, 127, 128, 129, 99, 100, 101, 102, 103, 104, 105, 106, 107, 108, 109, 130, 131, 132, 133, 134] (by decide +kernel) (by decide +kernel)
set_option maxRecDepth 20000 in
theorem gX3_isHeld_X3_mayCross : GoodIn wsX3_isHeld (wsV RX3 106 RX3 yX3_mayCross wsX3_mayCross) := goodIn_app (goodIn_of _ (by decide +kernel)) ggX3_isHeld_X3_mayCross
set_option maxRecDepth 20000 in
theorem ggX3_isHeld_X3_guessed : GoodIn wsX3_isHeld wsX3_guessed := goodIn_r _ [42, 43, 44, 45, 46, 35, 47, 48, 49, 50, 51, 52, 53, 54, 37, 38, 55, 56, 57, 58, 59, 60, 61, 62, 63, 64, 65, 66, 67, 68, 69, 70, 71, 72, 73, 74, 75, 76, 77, 78, 79, 80, 81, 82, 83, 84, 85, 86, 87, 88, 89, 90, 91, 99, 100, 101, 102, 103, 104, 105, 106, 107, 108, 109, 130, 131, 132, 133, 134] (by decide +kernel) (by decide +kernel)
set_option maxRecDepth 20000 in
theorem gX3_isHeld_X3_guessed : GoodIn wsX3_isHeld (wsV RX3 118 RX3 yX3_guessed wsX3_guessed) := goodIn_app (goodIn_of _ (by decide +kernel)) ggX3_isHeld_X3_guessed
set_option maxRecDepth 20000 in
theorem ggX3_isHeld_X3_worthOf : GoodIn wsX3_isHeld wsX3_worthOf := goodIn_r _ [95, 96, 97, 98, 99, 100, 101, 102, 103, 104, 105, 106, 107, 108, 109, 130, 131, 132, 133, 134] (by decide +kernel) (by decide +kernel)
set_option maxRecDepth 20000 in
theorem gX3_isHeld_X3_worthOf : GoodIn wsX3_isHeld (wsV RX3 83 RX3 yX3_worthOf wsX3_worthOf) := goodIn_app (goodIn_of _ (by decide +kernel)) ggX3_isHeld_X3_worthOf
set_option maxRecDepth 20000 in
theorem ggX3_waysTo_X3_mayCross : GoodIn wsX3_waysTo wsX3_mayCross := goodIn_r _ [8, 9, 10, 11, 12, 13, 14, 15, 16, 17, 18, 19, 20, 21, 22, 23, 24, 25, 26, 27, 28, 29, 30, 31, 32, 33, 34, 35, 36, 37, 38, 39, 109, 110, 111, 112, 113, 114, 115, 116, 117, 118, 119, 120, 121, 122, 123, 124, 125, 126, 127, 128, 98, 99, 100, 101, 102, 103, 104, 105, 106, 107, 108, 129, 130, 131, 132, 133] (by decide +kernel) (by decide +kernel)
set_option maxRecDepth 20000 in
theorem gX3_waysTo_X3_mayCross : GoodIn wsX3_waysTo (wsV RX3 106 RX3 yX3_mayCross wsX3_mayCross) := goodIn_app (goodIn_of _ (by decide +kernel)) ggX3_waysTo_X3_mayCross
set_option maxRecDepth 20000 in
theorem ggX3_waysTo_X3_guessed : GoodIn wsX3_waysTo wsX3_guessed := goodIn_r _ [43, 44, 45, 46, 47, 36, 48, 49, 50, 51, 52, 53, 54, 55, 38, 39, 56, 57, 58, 59, 60, 61, 62, 63, 64, 65, 66, 67, 68, 69, 70, 71, 72, 73, 74, 75, 76, 77, 78, 79, 80, 81, 82, 83, 84, 85, 86, 87, 88, 89, 90, 91, 92, 98, 99, 100, 101, 102, 103, 104, 105, 106, 107, 108, 129, 130, 131, 132, 133] (by decide +kernel) (by decide +kernel)
set_option maxRecDepth 20000 in
theorem gX3_waysTo_X3_guessed : GoodIn wsX3_waysTo (wsV RX3 118 RX3 yX3_guessed wsX3_guessed) := goodIn_app (goodIn_of _ (by decide +kernel)) ggX3_waysTo_X3_guessed
set_option maxRecDepth 20000 in
theorem ggX3_waysTo_X4_liesAs : GoodIn wsX3_waysTo wsX4_liesAs := goodIn_r _ [96, 38, 97, 129, 130, 131, 132, 133, 134, 135, 136] (by decide +kernel) (by decide +kernel)
set_option maxRecDepth 20000 in
theorem gX3_waysTo_X4_liesAs : GoodIn wsX3_waysTo (wsV RX3 148 RX4 yX4_liesAs wsX4_liesAs) := goodIn_app (goodIn_of _ (by decide +kernel)) ggX3_waysTo_X4_liesAs
set_option maxRecDepth 20000 in
theorem ggX4_begin_X4_lay : GoodIn wsX4_begin wsX4_lay := goodIn_r _ [8, 9, 10, 11, 12, 7, 13, 1, 14, 15, 16, 17, 18, 19, 20, 21, 22, 23, 24] (by decide +kernel) (by decide +kernel)
set_option maxRecDepth 20000 in
theorem gX4_begin_X4_lay : GoodIn wsX4_begin (wsV RX4 37 RX4 yX4_lay wsX4_lay) := goodIn_app (goodIn_of _ (by decide +kernel)) ggX4_begin_X4_lay
set_option maxRecDepth 20000 in
theorem ggX4_move_X4_add : GoodIn wsX4_move wsX4_add := goodIn_r _ [12, 4, 13, 14, 15, 16, 17, 11, 18, 19, 20, 21, 22, 40, 41, 42, 43, 44] (by decide +kernel) (by decide +kernel)
set_option maxRecDepth 20000 in
theorem gX4_move_X4_add : GoodIn wsX4_move (wsV RX4 51 RX4 yX4_add wsX4_add) := goodIn_app (goodIn_of _ (by decide +kernel)) ggX4_move_X4_add
set_option maxRecDepth 20000 in
theorem ggX4_move_X4_mirrored : GoodIn wsX4_move wsX4_mirrored := goodIn_r _ [25] (by decide +kernel) (by decide +kernel)
set_option maxRecDepth 20000 in
theorem gX4_move_X4_mirrored : GoodIn wsX4_move (va_wsS RX4 57 yX4_mirrored wsX4_mirrored) := goodIn_app (goodIn_of _ (by decide +kernel)) ggX4_move_X4_mirrored
set_option maxRecDepth 20000 in
theorem ggX4_move_X4_whichGoes : GoodIn wsX4_move wsX4_whichGoes := goodIn_r _ [29, 4, 14, 40, 41, 42, 43, 44] (by decide +kernel) (by decide +kernel)
set_option maxRecDepth 20000 in
theorem gX4_move_X4_whichGoes : GoodIn wsX4_move (wsV RX4 64 RX4 yX4_whichGoes wsX4_whichGoes) := goodIn_app (goodIn_of _ (by decide +kernel)) ggX4_move_X4_whichGoes
set_option maxRecDepth 20000 in
theorem ggX4_move_X4_remove : GoodIn wsX4_move wsX4_remove := goodIn_r _ [22, 4, 13, 14, 40, 41, 42, 43, 44] (by decide +kernel) (by decide +kernel)
set_option maxRecDepth 20000 in
theorem gX4_move_X4_remove : GoodIn wsX4_move (wsV RX4 68 RX4 yX4_remove wsX4_remove) := goodIn_app (goodIn_of _ (by decide +kernel)) ggX4_move_X4_remove
set_option maxRecDepth 20000 in
theorem ggX4_move_X4_lay : GoodIn wsX4_move wsX4_lay := goodIn_r _ [33, 13, 15, 16, 17, 11, 18, 4, 34, 35, 36, 37, 38, 39, 40, 41, 42, 43, 44] (by decide +kernel) (by decide +kernel)
set_option maxRecDepth 20000 in
theorem gX4_move_X4_lay : GoodIn wsX4_move (wsV RX4 37 RX4 yX4_lay wsX4_lay) := goodIn_app (goodIn_of _ (by decide +kernel)) ggX4_move_X4_lay
set_option maxRecDepth 20000 in
theorem ggX4_add_X4_cornerIn : GoodIn wsX4_add wsX4_cornerIn := goodIn_r _ [8, 1, 2, 13, 14, 15, 16, 17] (by decide +kernel) (by decide +kernel)
set_option maxRecDepth 20000 in
theorem gX4_add_X4_cornerIn : GoodIn wsX4_add (wsV RX4 72 RX4 yX4_cornerIn wsX4_cornerIn) := goodIn_app (goodIn_of _ (by decide +kernel)) ggX4_add_X4_cornerIn
set_option maxRecDepth 20000 in
theorem ggX4_add_X4_remove : GoodIn wsX4_add wsX4_remove := goodIn_r _ [12, 1, 2, 3, 13, 14, 15, 16, 17] (by decide +kernel) (by decide +kernel)
set_option maxRecDepth 20000 in
theorem gX4_add_X4_remove : GoodIn wsX4_add (wsV RX4 68 RX4 yX4_remove wsX4_remove) := goodIn_app (goodIn_of _ (by decide +kernel)) ggX4_add_X4_remove
set_option maxRecDepth 20000 in
theorem ggX4_isCorner_X4_cornerIn : GoodIn wsX4_isCorner wsX4_cornerIn := goodIn_r _ [6, 7, 1, 8, 9, 10, 11, 12] (by decide +kernel) (by decide +kernel)
set_option maxRecDepth 20000 in
theorem gX4_isCorner_X4_cornerIn : GoodIn wsX4_isCorner (wsV RX4 72 RX4 yX4_cornerIn wsX4_cornerIn) := goodIn_app (goodIn_of _ (by decide +kernel)) ggX4_isCorner_X4_cornerIn
set_option maxRecDepth 20000 in
theorem ggX4_lay_X4_cornerIn : GoodIn wsX4_lay wsX4_cornerIn := goodIn_r _ [6, 7, 1, 14, 15, 16, 17, 18] (by decide +kernel) (by decide +kernel)
set_option maxRecDepth 20000 in
theorem gX4_lay_X4_cornerIn : GoodIn wsX4_lay (wsV RX4 72 RX4 yX4_cornerIn wsX4_cornerIn) := goodIn_app (goodIn_of _ (by decide +kernel)) ggX4_lay_X4_cornerIn
set_option maxRecDepth 20000 in
theorem ggX4_lay_X4_layBetween : GoodIn wsX4_lay wsX4_layBetween := goodIn_r _ [11, 12, 13, 14, 15, 16, 17, 18] (by decide +kernel) (by decide +kernel)
set_option maxRecDepth 20000 in
theorem gX4_lay_X4_layBetween : GoodIn wsX4_lay (wsV RX4 75 RX4 yX4_layBetween wsX4_layBetween) := goodIn_app (goodIn_of _ (by decide +kernel)) ggX4_lay_X4_layBetween
set_option maxRecDepth 20000 in
theorem ggX5_init_X1_init : GoodIn wsX5_init wsX1_init := goodIn_r _ [4, 5, 6, 7, 8, 9, 10, 11, 12, 13, 14, 15, 16, 17, 18, 19, 20, 21, 22, 23, 24, 25, 26, 27, 28, 29, 30, 31, 32, 33, 34, 35] (by decide +kernel) (by decide +kernel)
set_option maxRecDepth 20000 in
theorem gX5_init_X1_init : GoodIn wsX5_init (wsX1_init) := ggX5_init_X1_init
set_option maxRecDepth 20000 in
theorem ggX5_size_X9_leave : GoodIn wsX5_size wsX9_leave := goodIn_r _ [5, 6, 7, 23, 24] (by decide +kernel) (by decide +kernel)
set_option maxRecDepth 20000 in
theorem gX5_size_X9_leave : GoodIn wsX5_size (wsV RX5 9 RX9 yX9_leave wsX9_leave) := goodIn_app (goodIn_of _ (by decide +kernel)) ggX5_size_X9_leave
set_option maxRecDepth 20000 in
theorem ggX5_size_X1_size : GoodIn wsX5_size wsX1_size := goodIn_r _ [13, 14, 2, 3, 4, 5, 6, 7, 15, 16, 17, 18, 19, 20, 21, 22, 23, 24, 25, 26, 27, 28, 29, 30, 31, 32, 33, 34, 35, 36, 37, 38, 39, 40, 41, 42, 43, 44] (by decide +kernel) (by decide +kernel)
set_option maxRecDepth 20000 in
theorem gX5_size_X1_size_s15 : GoodIn wsX5_size (va_wsSU RX5 15 yX1_size wsX1_size) := goodIn_app (goodIn_of _ (by decide +kernel)) ggX5_size_X1_size
set_option maxRecDepth 20000 in
theorem ggX6_size_X9_leave : GoodIn wsX6_size wsX9_leave := goodIn_r _ [6, 7, 8, 29, 30] (by decide +kernel) (by decide +kernel)
set_option maxRecDepth 20000 in
theorem gX6_size_X9_leave : GoodIn wsX6_size (wsV RX6 22 RX9 yX9_leave wsX9_leave) := goodIn_app (goodIn_of _ (by decide +kernel)) ggX6_size_X9_leave
set_option maxRecDepth 20000 in
theorem ggX6_mark_X9_leave : GoodIn wsX6_mark wsX9_leave := goodIn_r _ [6, 7, 8, 29, 30] (by decide +kernel) (by decide +kernel)
set_option maxRecDepth 20000 in
theorem gX6_mark_X9_leave : GoodIn wsX6_mark (wsV RX6 22 RX9 yX9_leave wsX9_leave) := goodIn_app (goodIn_of _ (by decide +kernel)) ggX6_mark_X9_leave
set_option maxRecDepth 20000 in
theorem ggX8_readGround_X3_init : GoodIn wsX8_readGround wsX3_init := goodIn_r _ [8, 9, 10, 11, 12, 13, 14, 15, 16, 17, 18, 19, 20, 21, 22, 23, 24, 25, 26, 27, 28, 29, 30, 31, 32, 33, 34, 35, 36, 37, 213, 214, 215, 216, 217, 218, 219, 220, 221, 222, 223, 233, 234, 235, 236, 237] (by decide +kernel) (by decide +kernel)
set_option maxRecDepth 20000 in
theorem gX8_readGround_X3_init_n42 : GoodIn wsX8_readGround (wsX3_init) := ggX8_readGround_X3_init
set_option maxRecDepth 20000 in
theorem ggX8_readGround_X8_step : GoodIn wsX8_readGround wsX8_step := goodIn_r _ [42, 4, 43, 6, 44, 5, 45, 46, 41, 47, 48, 49, 50, 51, 52, 53, 54, 55, 56, 57, 58, 59, 60, 61, 62, 224, 225, 226, 227, 228, 229, 230, 231, 232] (by decide +kernel) (by decide +kernel)
set_option maxRecDepth 20000 in
theorem gX8_readGround_X8_step : GoodIn wsX8_readGround (wsV RX8 43 RX8 yX8_step wsX8_step) := goodIn_app (goodIn_of _ (by decide +kernel)) ggX8_readGround_X8_step
set_option maxRecDepth 20000 in
theorem ggX8_readGround_X8_readPosts : GoodIn wsX8_readGround wsX8_readPosts := goodIn_r _ [66, 67, 68, 69, 70, 71, 72, 73, 41, 74, 75, 76, 77, 78, 5, 4, 43, 44, 79, 80, 81, 82, 83, 84, 85, 86, 87, 88, 89, 90, 91, 92, 93, 94, 95, 96, 97, 98, 99, 100, 101, 102, 103, 104, 105, 106, 107, 108, 109, 110, 111, 112, 113, 114, 115, 116, 117, 118, 119, 120, 121, 122, 123, 124, 125, 126, 127, 128, 129, 130, 131, 132, 133, 38, 39, 40, 42, 6, 45, 46, 47, 48, 49, 50, 51, 52, 53, 54, 55, 56, 57, 58, 59, 60, 61, 62, 134, 135, 136, 137, 138, 139, 140, 141, 224, 225, 226, 227, 228, 229, 230, 231, 232, 213, 214, 215, 216, 217, 218, 219, 220, 221, 222, 223] (by decide +kernel) (by decide +kernel)
set_option maxRecDepth 20000 in
theorem gX8_readGround_X8_readPosts : GoodIn wsX8_readGround (wsV RX8 46 RX8 yX8_readPosts wsX8_readPosts) := goodIn_app (goodIn_of _ (by decide +kernel)) ggX8_readGround_X8_readPosts
set_option maxRecDepth 20000 in
theorem ggX8_readGround_X8_readVillages : GoodIn wsX8_readGround wsX8_readVillages := goodIn_r _ [145, 67, 75, 76, 77, 41, 78, 5, 4, 43, 44, 79, 80, 81, 82, 83, 84, 85, 86, 87, 88, 89, 90, 91, 92, 93, 94, 95, 96, 97, 98, 99, 100, 101, 102, 103, 104, 105, 106, 107, 108, 109, 110, 111, 112, 113, 114, 115, 116, 117, 118, 119, 120, 121, 122, 123, 124, 125, 126, 127, 128, 129, 130, 131, 132, 133, 38, 39, 40, 42, 6, 45, 46, 47, 48, 49, 50, 51, 52, 53, 54, 55, 56, 57, 58, 59, 60, 61, 62, 134, 135, 136, 137, 138, 139, 140, 141, 146, 147, 148, 3, 149, 16, 24, 19, 224, 225, 226, 227, 228, 229, 230, 231, 232, 213, 214, 215, 216, 217, 218, 219, 220, 221, 222, 223] (by decide +kernel) (by decide +kernel)
set_option maxRecDepth 20000 in
theorem gX8_readGround_X8_readVillages : GoodIn wsX8_readGround (wsV RX8 50 RX8 yX8_readVillages wsX8_readVillages) := goodIn_app (goodIn_of _ (by decide +kernel)) ggX8_readGround_X8_readVillages
set_option maxRecDepth 20000 in
theorem ggX8_readGround_X8_readGuards : GoodIn wsX8_readGround wsX8_readGuards := goodIn_r _ [153, 154, 67, 75, 76, 77, 41, 78, 5, 4, 43, 44, 79, 80, 81, 82, 83, 84, 85, 86, 87, 88, 89, 90, 91, 92, 93, 94, 95, 96, 97, 98, 99, 100, 101, 102, 103, 104, 105, 106, 107, 108, 109, 110, 111, 112, 113, 114, 115, 116, 117, 118, 119, 120, 121, 122, 123, 124, 125, 126, 127, 128, 129, 130, 131, 132, 133, 38, 39, 40, 42, 6, 45, 46, 47, 48, 49, 50, 51, 52, 53, 54, 55, 56, 57, 58, 59, 60, 61, 62, 134, 135, 136, 137, 138, 139, 140, 141, 213, 214, 215, 216, 217, 218, 219, 220, 221, 222, 223, 224, 225, 226, 227, 228, 229, 230, 231, 232] (by decide +kernel) (by decide +kernel)
set_option maxRecDepth 20000 in
theorem gX8_readGround_X8_readGuards : GoodIn wsX8_readGround (wsV RX8 53 RX8 yX8_readGuards wsX8_readGuards) := goodIn_app (goodIn_of _ (by decide +kernel)) ggX8_readGround_X8_readGuards
set_option maxRecDepth 20000 in
theorem ggX8_readGround_X8_readPeople : GoodIn wsX8_readGround wsX8_readPeople := goodIn_r _ [158, 67, 75, 76, 77, 41, 78, 5, 4, 43, 44, 79, 80, 81, 82, 83, 84, 85, 86, 87, 88, 89, 90, 91, 92, 93, 94, 95, 96, 97, 98, 99, 100, 101, 102, 103, 104, 105, 106, 107, 108, 109, 110, 111, 112, 113, 114, 115, 116, 117, 118, 119, 120, 121, 122, 123, 124, 125, 126, 127, 128, 129, 130, 131, 132, 133, 38, 39, 40, 42, 6, 45, 46, 47, 48, 49, 50, 51, 52, 53, 54, 55, 56, 57, 58, 59, 60, 61, 62, 159, 160, 161, 162, 134, 135, 136, 137, 138, 139, 140, 141, 163, 164, 165, 3, 166, 22, 21, 167, 168, 169, 170, 171, 172, 173, 174, 175, 176, 177, 178, 179, 180, 181, 182, 183, 184, 185, 186, 187, 188, 189, 190, 191, 192, 10, 11, 193, 194, 195, 196, 197, 198, 199, 200, 201, 202, 203, 204, 205, 206, 207, 208, 209, 210, 211, 212, 224, 225, 226, 227, 228, 229, 230, 231, 232, 213, 214, 215, 216, 217, 218, 219, 220, 221, 222, 223, 238, 239, 240, 241, 242, 243, 244, 245, 246, 247, 248, 249, 250, 251, 252, 253, 254, 255, 256, 257] (by decide +kernel) (by decide +kernel)
set_option maxRecDepth 20000 in
theorem gX8_readGround_X8_readPeople : GoodIn wsX8_readGround (wsV RX8 56 RX8 yX8_readPeople wsX8_readPeople) := goodIn_app (goodIn_of _ (by decide +kernel)) ggX8_readGround_X8_readPeople
set_option maxRecDepth 20000 in
theorem ggX8_readGround_X8_fails : GoodIn wsX8_readGround wsX8_fails := goodIn_r _ [131, 132, 43, 133, 224, 225, 226, 227, 228, 229, 230, 231, 232] (by decide +kernel) (by decide +kernel)
set_option maxRecDepth 20000 in
theorem gX8_readGround_X8_fails : GoodIn wsX8_readGround (wsV RX8 59 RX8 yX8_fails wsX8_fails) := goodIn_app (goodIn_of _ (by decide +kernel)) ggX8_readGround_X8_fails
set_option maxRecDepth 20000 in
theorem ggX8_readPosts_X8_word : GoodIn wsX8_readPosts wsX8_word := goodIn_r _ [9, 10, 11, 12, 8, 13, 14, 15, 16, 17, 18, 19, 20, 21, 22, 23, 24, 25, 26, 27, 28, 29, 30, 31, 32, 33, 34, 35, 36, 37, 38, 39, 40, 41, 42, 43, 44, 45, 46, 47, 48, 49, 50, 51, 52, 53, 54, 55, 56, 57, 58, 59, 60, 61, 62, 63, 64, 65, 66, 67, 68, 69, 70, 71, 72, 73, 74, 75, 76, 77, 78, 79, 80, 81, 82, 83, 84, 85, 86, 87, 88, 89, 90, 91, 92, 93, 94, 95, 104, 105, 106, 107, 108, 109, 110, 111, 112] (by decide +kernel) (by decide +kernel)
set_option maxRecDepth 20000 in
theorem gX8_readPosts_X8_word : GoodIn wsX8_readPosts (wsV RX8 65 RX8 yX8_word wsX8_word) := goodIn_app (goodIn_of _ (by decide +kernel)) ggX8_readPosts_X8_word
set_option maxRecDepth 20000 in
theorem ggX8_readPosts_X8_number : GoodIn wsX8_readPosts wsX8_number := goodIn_r _ [99, 14, 95, 1, 67, 68, 69, 8, 70, 71, 16, 72, 73, 74, 75, 76, 15, 77, 17, 78, 79, 80, 81, 82, 83, 84, 85, 86, 87, 88, 89, 90, 91, 92, 93, 94, 104, 105, 106, 107, 108, 109, 110, 111, 112] (by decide +kernel) (by decide +kernel)
set_option maxRecDepth 20000 in
theorem gX8_readPosts_X8_number : GoodIn wsX8_readPosts (wsV RX8 69 RX8 yX8_number wsX8_number) := goodIn_app (goodIn_of _ (by decide +kernel)) ggX8_readPosts_X8_number
set_option maxRecDepth 20000 in
theorem ggX8_readPosts_X8_sign : GoodIn wsX8_readPosts wsX8_sign := goodIn_r _ [103, 14, 67, 68, 69, 8, 70, 71, 16, 72, 73, 74, 75, 76, 15, 77, 17, 78, 79, 80, 81, 82, 83, 84, 85, 86, 87, 88, 89, 90, 91, 92, 93, 94, 95, 104, 105, 106, 107, 108, 109, 110, 111, 112] (by decide +kernel) (by decide +kernel)
set_option maxRecDepth 20000 in
theorem gX8_readPosts_X8_sign : GoodIn wsX8_readPosts (wsV RX8 73 RX8 yX8_sign wsX8_sign) := goodIn_app (goodIn_of _ (by decide +kernel)) ggX8_readPosts_X8_sign
set_option maxRecDepth 20000 in
theorem ggX8_readVillages_X8_isWord : GoodIn wsX8_readVillages wsX8_isWord := goodIn_r _ [6, 7, 8, 9, 10, 11, 12, 13, 14, 15, 16, 17, 18, 19, 20, 21, 22, 23, 24, 25, 26, 27, 28, 29, 30, 31, 32, 33, 34, 35, 36, 37, 38, 39, 40, 41, 42, 43, 44, 45, 46, 47, 48, 49, 50, 51, 52, 53, 54, 55, 56, 57, 58, 59, 105, 106, 107, 108, 109, 110, 111, 112, 113] (by decide +kernel) (by decide +kernel)
set_option maxRecDepth 20000 in
theorem gX8_readVillages_X8_isWord : GoodIn wsX8_readVillages (wsV RX8 88 RX8 yX8_isWord wsX8_isWord) := goodIn_app (goodIn_of _ (by decide +kernel)) ggX8_readVillages_X8_isWord
set_option maxRecDepth 20000 in
theorem ggX8_readVillages_X8_fails : GoodIn wsX8_readVillages wsX8_fails := goodIn_r _ [63, 64, 9, 65, 105, 106, 107, 108, 109, 110, 111, 112, 113] (by decide +kernel) (by decide +kernel)
set_option maxRecDepth 20000 in
theorem gX8_readVillages_X8_fails : GoodIn wsX8_readVillages (wsV RX8 59 RX8 yX8_fails wsX8_fails) := goodIn_app (goodIn_of _ (by decide +kernel)) ggX8_readVillages_X8_fails
set_option maxRecDepth 20000 in
theorem ggX8_readVillages_X8_step : GoodIn wsX8_readVillages wsX8_step := goodIn_r _ [69, 8, 9, 70, 10, 7, 71, 72, 5, 73, 74, 75, 76, 77, 78, 79, 80, 81, 82, 83, 84, 85, 86, 87, 88, 105, 106, 107, 108, 109, 110, 111, 112, 113] (by decide +kernel) (by decide +kernel)
set_option maxRecDepth 20000 in
theorem gX8_readVillages_X8_step : GoodIn wsX8_readVillages (wsV RX8 43 RX8 yX8_step wsX8_step) := goodIn_app (goodIn_of _ (by decide +kernel)) ggX8_readVillages_X8_step
set_option maxRecDepth 20000 in
theorem ggX8_readVillages_X8_number : GoodIn wsX8_readVillages wsX8_number := goodIn_r _ [92, 7, 88, 1, 60, 61, 62, 5, 63, 64, 9, 65, 66, 67, 68, 69, 8, 70, 10, 71, 72, 73, 74, 75, 76, 77, 78, 79, 80, 81, 82, 83, 84, 85, 86, 87, 105, 106, 107, 108, 109, 110, 111, 112, 113] (by decide +kernel) (by decide +kernel)
set_option maxRecDepth 20000 in
theorem gX8_readVillages_X8_number : GoodIn wsX8_readVillages (wsV RX8 69 RX8 yX8_number wsX8_number) := goodIn_app (goodIn_of _ (by decide +kernel)) ggX8_readVillages_X8_number
set_option maxRecDepth 20000 in
theorem ggX8_readVillages_X8_sign : GoodIn wsX8_readVillages wsX8_sign := goodIn_r _ [96, 7, 60, 61, 62, 5, 63, 64, 9, 65, 66, 67, 68, 69, 8, 70, 10, 71, 72, 73, 74, 75, 76, 77, 78, 79, 80, 81, 82, 83, 84, 85, 86, 87, 88, 105, 106, 107, 108, 109, 110, 111, 112, 113] (by decide +kernel) (by decide +kernel)
set_option maxRecDepth 20000 in
theorem gX8_readVillages_X8_sign : GoodIn wsX8_readVillages (wsV RX8 73 RX8 yX8_sign wsX8_sign) := goodIn_app (goodIn_of _ (by decide +kernel)) ggX8_readVillages_X8_sign
set_option maxRecDepth 20000 in
theorem ggX8_readVillages_X3_addVillage : GoodIn wsX8_readVillages wsX3_addVillage := goodIn_r _ [101, 102, 103, 104, 114, 115, 116, 117, 118, 119, 120, 121, 122, 123, 124] (by decide +kernel) (by decide +kernel)
set_option maxRecDepth 20000 in
theorem gX8_readVillages_X3_addVillage : GoodIn wsX8_readVillages (wsV RX8 91 RX3 yX3_addVillage wsX3_addVillage) := goodIn_app (goodIn_of _ (by decide +kernel)) ggX8_readVillages_X3_addVillage
set_option maxRecDepth 20000 in
theorem ggX8_readGuards_X8_isWord : GoodIn wsX8_readGuards wsX8_isWord := goodIn_r _ [7, 8, 9, 10, 11, 12, 13, 14, 15, 16, 17, 18, 19, 20, 21, 22, 23, 24, 25, 26, 27, 28, 29, 30, 31, 32, 33, 34, 35, 36, 37, 38, 39, 40, 41, 42, 43, 44, 45, 46, 47, 48, 49, 50, 51, 52, 53, 54, 55, 56, 57, 58, 59, 60, 109, 110, 111, 112, 113, 114, 115, 116, 117] (by decide +kernel) (by decide +kernel)
set_option maxRecDepth 20000 in
theorem gX8_readGuards_X8_isWord : GoodIn wsX8_readGuards (wsV RX8 88 RX8 yX8_isWord wsX8_isWord) := goodIn_app (goodIn_of _ (by decide +kernel)) ggX8_readGuards_X8_isWord
set_option maxRecDepth 20000 in
theorem ggX8_readGuards_X8_fails : GoodIn wsX8_readGuards wsX8_fails := goodIn_r _ [64, 65, 10, 66, 109, 110, 111, 112, 113, 114, 115, 116, 117] (by decide +kernel) (by decide +kernel)
set_option maxRecDepth 20000 in
theorem gX8_readGuards_X8_fails : GoodIn wsX8_readGuards (wsV RX8 59 RX8 yX8_fails wsX8_fails) := goodIn_app (goodIn_of _ (by decide +kernel)) ggX8_readGuards_X8_fails
set_option maxRecDepth 20000 in
theorem ggX8_readGuards_X8_step : GoodIn wsX8_readGuards wsX8_step := goodIn_r _ [70, 9, 10, 71, 11, 8, 72, 73, 6, 74, 75, 76, 77, 78, 79, 80, 81, 82, 83, 84, 85, 86, 87, 88, 89, 109, 110, 111, 112, 113, 114, 115, 116, 117] (by decide +kernel) (by decide +kernel)
set_option maxRecDepth 20000 in
theorem gX8_readGuards_X8_step : GoodIn wsX8_readGuards (wsV RX8 43 RX8 yX8_step wsX8_step) := goodIn_app (goodIn_of _ (by decide +kernel)) ggX8_readGuards_X8_step
set_option maxRecDepth 20000 in
theorem ggX8_readGuards_X8_number : GoodIn wsX8_readGuards wsX8_number := goodIn_r _ [93, 8, 89, 2, 61, 62, 63, 6, 64, 65, 10, 66, 67, 68, 69, 70, 9, 71, 11, 72, 73, 74, 75, 76, 77, 78, 79, 80, 81, 82, 83, 84, 85, 86, 87, 88, 109, 110, 111, 112, 113, 114, 115, 116, 117] (by decide +kernel) (by decide +kernel)
set_option maxRecDepth 20000 in
theorem gX8_readGuards_X8_number : GoodIn wsX8_readGuards (wsV RX8 69 RX8 yX8_number wsX8_number) := goodIn_app (goodIn_of _ (by decide +kernel)) ggX8_readGuards_X8_number
set_option maxRecDepth 20000 in
theorem ggX8_readGuards_X8_sign : GoodIn wsX8_readGuards wsX8_sign := goodIn_r _ [97, 8, 61, 62, 63, 6, 64, 65, 10, 66, 67, 68, 69, 70, 9, 71, 11, 72, 73, 74, 75, 76, 77, 78, 79, 80, 81, 82, 83, 84, 85, 86, 87, 88, 89, 109, 110, 111, 112, 113, 114, 115, 116, 117] (by decide +kernel) (by decide +kernel)
set_option maxRecDepth 20000 in
theorem gX8_readGuards_X8_sign : GoodIn wsX8_readGuards (wsV RX8 73 RX8 yX8_sign wsX8_sign) := goodIn_app (goodIn_of _ (by decide +kernel)) ggX8_readGuards_X8_sign
set_option maxRecDepth 20000 in
theorem ggX8_readPeople_X8_isWord : GoodIn wsX8_readPeople wsX8_isWord := goodIn_r _ [6, 7, 8, 9, 10, 11, 12, 13, 14, 15, 16, 17, 18, 19, 20, 21, 22, 23, 24, 25, 26, 27, 28, 29, 30, 31, 32, 33, 34, 35, 36, 37, 38, 39, 40, 41, 42, 43, 44, 45, 46, 47, 48, 49, 50, 51, 52, 53, 54, 55, 56, 57, 58, 59, 156, 157, 158, 159, 160, 161, 162, 163, 164] (by decide +kernel) (by decide +kernel)
set_option maxRecDepth 20000 in
theorem gX8_readPeople_X8_isWord : GoodIn wsX8_readPeople (wsV RX8 88 RX8 yX8_isWord wsX8_isWord) := goodIn_app (goodIn_of _ (by decide +kernel)) ggX8_readPeople_X8_isWord
set_option maxRecDepth 20000 in
theorem ggX8_readPeople_X8_fails : GoodIn wsX8_readPeople wsX8_fails := goodIn_r _ [63, 64, 9, 65, 156, 157, 158, 159, 160, 161, 162, 163, 164] (by decide +kernel) (by decide +kernel)
set_option maxRecDepth 20000 in
theorem gX8_readPeople_X8_fails : GoodIn wsX8_readPeople (wsV RX8 59 RX8 yX8_fails wsX8_fails) := goodIn_app (goodIn_of _ (by decide +kernel)) ggX8_readPeople_X8_fails
set_option maxRecDepth 20000 in
theorem ggX8_readPeople_X8_step : GoodIn wsX8_readPeople wsX8_step := goodIn_r _ [69, 8, 9, 70, 10, 7, 71, 72, 5, 73, 74, 75, 76, 77, 78, 79, 80, 81, 82, 83, 84, 85, 86, 87, 88, 156, 157, 158, 159, 160, 161, 162, 163, 164] (by decide +kernel) (by decide +kernel)
set_option maxRecDepth 20000 in
theorem gX8_readPeople_X8_step : GoodIn wsX8_readPeople (wsV RX8 43 RX8 yX8_step wsX8_step) := goodIn_app (goodIn_of _ (by decide +kernel)) ggX8_readPeople_X8_step
set_option maxRecDepth 20000 in
theorem ggX8_readPeople_X8_kindTold : GoodIn wsX8_readPeople wsX8_kindTold := goodIn_r _ [92, 2, 3, 4, 5, 6, 7, 8, 9, 10, 11, 12, 13, 14, 15, 16, 17, 18, 19, 20, 21, 22, 23, 24, 25, 26, 27, 28, 29, 30, 31, 32, 33, 34, 35, 36, 37, 38, 39, 40, 41, 42, 43, 44, 45, 46, 47, 48, 49, 50, 51, 52, 53, 54, 55, 56, 57, 58, 59, 156, 157, 158, 159, 160, 161, 162, 163, 164] (by decide +kernel) (by decide +kernel)
set_option maxRecDepth 20000 in
theorem gX8_readPeople_X8_kindTold : GoodIn wsX8_readPeople (wsV RX8 103 RX8 yX8_kindTold wsX8_kindTold) := goodIn_app (goodIn_of _ (by decide +kernel)) ggX8_readPeople_X8_kindTold
set_option maxRecDepth 20000 in
theorem ggX8_readPeople_X8_number : GoodIn wsX8_readPeople wsX8_number := goodIn_r _ [96, 7, 88, 1, 60, 61, 62, 5, 63, 64, 9, 65, 66, 67, 68, 69, 8, 70, 10, 71, 72, 73, 74, 75, 76, 77, 78, 79, 80, 81, 82, 83, 84, 85, 86, 87, 156, 157, 158, 159, 160, 161, 162, 163, 164] (by decide +kernel) (by decide +kernel)
set_option maxRecDepth 20000 in
theorem gX8_readPeople_X8_number : GoodIn wsX8_readPeople (wsV RX8 69 RX8 yX8_number wsX8_number) := goodIn_app (goodIn_of _ (by decide +kernel)) ggX8_readPeople_X8_number
set_option maxRecDepth 20000 in
theorem ggX8_readPeople_X8_sign : GoodIn wsX8_readPeople wsX8_sign := goodIn_r _ [100, 7, 60, 61, 62, 5, 63, 64, 9, 65, 66, 67, 68, 69, 8, 70, 10, 71, 72, 73, 74, 75, 76, 77, 78, 79, 80, 81, 82, 83, 84, 85, 86, 87, 88, 156, 157, 158, 159, 160, 161, 162, 163, 164] (by decide +kernel) (by decide +kernel)
set_option maxRecDepth 20000 in
theorem gX8_readPeople_X8_sign : GoodIn wsX8_readPeople (wsV RX8 73 RX8 yX8_sign wsX8_sign) := goodIn_app (goodIn_of _ (by decide +kernel)) ggX8_readPeople_X8_sign
set_option maxRecDepth 20000 in
theorem ggX8_readPeople_X3_addPerson : GoodIn wsX8_readPeople wsX3_addPerson := goodIn_r _ [105, 106, 107, 108, 109, 104, 110, 111, 112, 113, 114, 115, 116, 117, 118, 119, 120, 121, 122, 123, 124, 125, 126, 127, 128, 129, 130, 131, 132, 133, 134, 135, 136, 137, 138, 139, 140, 141, 142, 143, 144, 145, 146, 147, 148, 149, 150, 151, 152, 153, 154, 155, 165, 166, 167, 168, 169, 170, 171, 172, 173, 174, 175, 176, 177, 178, 179, 180, 181, 182, 183, 184, 185, 186, 187, 188, 189, 190, 191, 192, 193, 194, 195] (by decide +kernel) (by decide +kernel)
set_option maxRecDepth 20000 in
theorem gX8_readPeople_X3_addPerson : GoodIn wsX8_readPeople (wsV RX8 107 RX3 yX3_addPerson wsX3_addPerson) := goodIn_app (goodIn_of _ (by decide +kernel)) ggX8_readPeople_X3_addPerson
set_option maxRecDepth 20000 in
theorem ggX8_kindTold_X8_isWord : GoodIn wsX8_kindTold wsX8_isWord := goodIn_r _ [5, 6, 7, 8, 9, 10, 11, 12, 13, 14, 15, 16, 17, 18, 19, 20, 21, 22, 23, 24, 25, 26, 27, 28, 29, 30, 31, 32, 33, 34, 35, 36, 37, 38, 39, 40, 41, 42, 43, 44, 45, 46, 47, 48, 49, 50, 51, 52, 53, 54, 55, 56, 57, 58, 59, 60, 61, 62, 63, 64, 65, 66, 67] (by decide +kernel) (by decide +kernel)
set_option maxRecDepth 20000 in
theorem gX8_kindTold_X8_isWord : GoodIn wsX8_kindTold (wsV RX8 88 RX8 yX8_isWord wsX8_isWord) := goodIn_app (goodIn_of _ (by decide +kernel)) ggX8_kindTold_X8_isWord
set_option maxRecDepth 20000 in
theorem ggX8_word_X8_isWord : GoodIn wsX8_word wsX8_isWord := goodIn_r _ [5, 6, 7, 8, 9, 10, 11, 12, 13, 14, 15, 16, 17, 18, 19, 20, 21, 22, 23, 24, 25, 26, 27, 28, 29, 30, 31, 32, 33, 34, 35, 36, 37, 38, 39, 40, 41, 42, 43, 44, 45, 46, 47, 48, 49, 50, 51, 52, 53, 54, 55, 56, 57, 58, 88, 89, 90, 91, 92, 93, 94, 95, 96] (by decide +kernel) (by decide +kernel)
set_option maxRecDepth 20000 in
theorem gX8_word_X8_isWord : GoodIn wsX8_word (wsV RX8 88 RX8 yX8_isWord wsX8_isWord) := goodIn_app (goodIn_of _ (by decide +kernel)) ggX8_word_X8_isWord
set_option maxRecDepth 20000 in
theorem ggX8_word_X8_fails : GoodIn wsX8_word wsX8_fails := goodIn_r _ [62, 63, 8, 64, 88, 89, 90, 91, 92, 93, 94, 95, 96] (by decide +kernel) (by decide +kernel)
set_option maxRecDepth 20000 in
theorem gX8_word_X8_fails : GoodIn wsX8_word (wsV RX8 59 RX8 yX8_fails wsX8_fails) := goodIn_app (goodIn_of _ (by decide +kernel)) ggX8_word_X8_fails
set_option maxRecDepth 20000 in
theorem ggX8_word_X8_step : GoodIn wsX8_word wsX8_step := goodIn_r _ [68, 7, 8, 69, 9, 6, 70, 71, 4, 72, 73, 74, 75, 76, 77, 78, 79, 80, 81, 82, 83, 84, 85, 86, 87, 88, 89, 90, 91, 92, 93, 94, 95, 96] (by decide +kernel) (by decide +kernel)
set_option maxRecDepth 20000 in
theorem gX8_word_X8_step : GoodIn wsX8_word (wsV RX8 43 RX8 yX8_step wsX8_step) := goodIn_app (goodIn_of _ (by decide +kernel)) ggX8_word_X8_step
set_option maxRecDepth 20000 in
theorem ggX8_number_X8_fails : GoodIn wsX8_number wsX8_fails := goodIn_r _ [8, 9, 10, 11, 36, 37, 38, 39, 40, 41, 42, 43, 44] (by decide +kernel) (by decide +kernel)
set_option maxRecDepth 20000 in
theorem gX8_number_X8_fails : GoodIn wsX8_number (wsV RX8 59 RX8 yX8_fails wsX8_fails) := goodIn_app (goodIn_of _ (by decide +kernel)) ggX8_number_X8_fails
set_option maxRecDepth 20000 in
theorem ggX8_number_X8_step : GoodIn wsX8_number wsX8_step := goodIn_r _ [15, 16, 10, 17, 18, 1, 19, 20, 7, 21, 22, 23, 24, 25, 26, 27, 28, 29, 30, 31, 32, 33, 34, 35, 2, 36, 37, 38, 39, 40, 41, 42, 43, 44] (by decide +kernel) (by decide +kernel)
set_option maxRecDepth 20000 in
theorem gX8_number_X8_step : GoodIn wsX8_number (wsV RX8 43 RX8 yX8_step wsX8_step) := goodIn_app (goodIn_of _ (by decide +kernel)) ggX8_number_X8_step
set_option maxRecDepth 20000 in
theorem ggX8_sign_X8_fails : GoodIn wsX8_sign wsX8_fails := goodIn_r _ [6, 7, 8, 9, 35, 36, 37, 38, 39, 40, 41, 42, 43] (by decide +kernel) (by decide +kernel)
set_option maxRecDepth 20000 in
theorem gX8_sign_X8_fails : GoodIn wsX8_sign (wsV RX8 59 RX8 yX8_fails wsX8_fails) := goodIn_app (goodIn_of _ (by decide +kernel)) ggX8_sign_X8_fails
set_option maxRecDepth 20000 in
theorem ggX8_sign_X8_step : GoodIn wsX8_sign wsX8_step := goodIn_r _ [13, 14, 8, 15, 16, 1, 17, 18, 5, 19, 20, 21, 22, 23, 24, 25, 26, 27, 28, 29, 30, 31, 32, 33, 34, 35, 36, 37, 38, 39, 40, 41, 42, 43] (by decide +kernel) (by decide +kernel)
set_option maxRecDepth 20000 in
theorem gX8_sign_X8_step : GoodIn wsX8_sign (wsV RX8 43 RX8 yX8_step wsX8_step) := goodIn_app (goodIn_of _ (by decide +kernel)) ggX8_sign_X8_step
set_option maxRecDepth 20000 in
theorem ggX8_isWord_J0_length_8abf5 : GoodIn wsX8_isWord wsJ0_length_8abf5 := goodIn_r _ [9, 10, 11, 12, 13, 8, 14, 15, 16] (by decide +kernel) (by decide +kernel)
set_option maxRecDepth 20000 in
theorem gX8_isWord_J0_length_8abf5 : GoodIn wsX8_isWord (wsV RX8 131 RJ0 yJ0_length_8abf5 wsJ0_length_8abf5) := goodIn_app (goodIn_of _ (by decide +kernel)) ggX8_isWord_J0_length_8abf5
set_option maxRecDepth 20000 in
theorem ggX8_isWord_J0_charAt_5068e : GoodIn wsX8_isWord wsJ0_charAt_5068e := goodIn_r _ [20, 10, 21, 22, 23, 8, 24, 15, 16, 25, 26, 27, 28, 29, 30, 31, 32, 33, 34, 35, 36, 37, 38, 39, 40, 41, 42, 43, 44, 45, 46, 47, 48, 49, 50, 51, 52, 53] (by decide +kernel) (by decide +kernel)
set_option maxRecDepth 20000 in
theorem gX8_isWord_J0_charAt_5068e : GoodIn wsX8_isWord (wsV RX8 136 RJ0 yJ0_charAt_5068e wsJ0_charAt_5068e) := goodIn_app (goodIn_of _ (by decide +kernel)) ggX8_isWord_J0_charAt_5068e
set_option maxRecDepth 20000 in
theorem ggX8_step_X8_isBlank : GoodIn wsX8_step wsX8_isBlank := goodIn_r _ [9] (by decide +kernel) (by decide +kernel)
set_option maxRecDepth 20000 in
theorem gX8_step_X8_isBlank : GoodIn wsX8_step (va_wsS RX8 140 yX8_isBlank wsX8_isBlank) := goodIn_app (goodIn_of _ (by decide +kernel)) ggX8_step_X8_isBlank
set_option maxRecDepth 20000 in
theorem ggX8_step_X8_isLetter : GoodIn wsX8_step wsX8_isLetter := goodIn_r _ [12] (by decide +kernel) (by decide +kernel)
set_option maxRecDepth 20000 in
theorem gX8_step_X8_isLetter : GoodIn wsX8_step (va_wsS RX8 143 yX8_isLetter wsX8_isLetter) := goodIn_app (goodIn_of _ (by decide +kernel)) ggX8_step_X8_isLetter
set_option maxRecDepth 20000 in
theorem ggX8_step_X8_stepOverName : GoodIn wsX8_step wsX8_stepOverName := goodIn_r _ [16, 1, 3, 4, 5, 10, 11, 8, 12, 25, 26, 27, 28, 29, 30, 31, 32, 33] (by decide +kernel) (by decide +kernel)
set_option maxRecDepth 20000 in
theorem gX8_step_X8_stepOverName : GoodIn wsX8_step (wsV RX8 146 RX8 yX8_stepOverName wsX8_stepOverName) := goodIn_app (goodIn_of _ (by decide +kernel)) ggX8_step_X8_stepOverName
set_option maxRecDepth 20000 in
theorem ggX8_step_X8_isFigure : GoodIn wsX8_step wsX8_isFigure := goodIn_r _ [19] (by decide +kernel) (by decide +kernel)
set_option maxRecDepth 20000 in
theorem gX8_step_X8_isFigure : GoodIn wsX8_step (va_wsS RX8 149 yX8_isFigure wsX8_isFigure) := goodIn_app (goodIn_of _ (by decide +kernel)) ggX8_step_X8_isFigure
set_option maxRecDepth 20000 in
theorem ggX8_step_X8_stepOverNumber : GoodIn wsX8_step wsX8_stepOverNumber := goodIn_r _ [23, 24, 1, 3, 4, 2, 5, 17, 18, 8, 19, 25, 26, 27, 28, 29, 30, 31, 32, 33] (by decide +kernel) (by decide +kernel)
set_option maxRecDepth 20000 in
theorem gX8_step_X8_stepOverNumber : GoodIn wsX8_step (wsV RX8 152 RX8 yX8_stepOverNumber wsX8_stepOverNumber) := goodIn_app (goodIn_of _ (by decide +kernel)) ggX8_step_X8_stepOverNumber
set_option maxRecDepth 20000 in
theorem ggX8_stepOverName_X8_isLetter : GoodIn wsX8_stepOverName wsX8_isLetter := goodIn_r _ [8] (by decide +kernel) (by decide +kernel)
set_option maxRecDepth 20000 in
theorem gX8_stepOverName_X8_isLetter : GoodIn wsX8_stepOverName (va_wsS RX8 143 yX8_isLetter wsX8_isLetter) := goodIn_app (goodIn_of _ (by decide +kernel)) ggX8_stepOverName_X8_isLetter
set_option maxRecDepth 20000 in
theorem ggX8_stepOverNumber_X8_isFigure : GoodIn wsX8_stepOverNumber wsX8_isFigure := goodIn_r _ [10] (by decide +kernel) (by decide +kernel)
set_option maxRecDepth 20000 in
theorem gX8_stepOverNumber_X8_isFigure : GoodIn wsX8_stepOverNumber (va_wsS RX8 149 yX8_isFigure wsX8_isFigure) := goodIn_app (goodIn_of _ (by decide +kernel)) ggX8_stepOverNumber_X8_isFigure
set_option maxRecDepth 20000 in
theorem ggX10_init_X0_init : GoodIn wsX10_init wsX0_init := goodIn_r _ [4, 5, 6, 7, 8, 9, 10, 11, 12, 13, 14, 15, 16, 17, 18, 19, 20, 21, 22, 23, 24, 25, 26, 27, 28, 29, 30, 31, 32, 33, 34, 35] (by decide +kernel) (by decide +kernel)
set_option maxRecDepth 20000 in
theorem gX10_init_X0_init : GoodIn wsX10_init (wsX0_init) := ggX10_init_X0_init
set_option maxRecDepth 20000 in
theorem ggX10_mark_X9_leave : GoodIn wsX10_mark wsX9_leave := goodIn_r _ [5, 6, 7, 25, 26] (by decide +kernel) (by decide +kernel)
set_option maxRecDepth 20000 in
theorem gX10_mark_X9_leave : GoodIn wsX10_mark (wsV RX10 9 RX9 yX9_leave wsX9_leave) := goodIn_app (goodIn_of _ (by decide +kernel)) ggX10_mark_X9_leave
set_option maxRecDepth 20000 in
theorem ggX10_mark_X0_mark : GoodIn wsX10_mark wsX0_mark := goodIn_r _ [13, 14, 15, 16, 2, 3, 4, 5, 6, 7, 17, 18, 19, 20, 21, 22, 23, 24, 27, 28, 29, 30, 31, 32, 33, 34, 35, 36, 37, 38, 39, 40, 41, 42, 43, 44, 45, 46, 25, 26] (by decide +kernel) (by decide +kernel)
set_option maxRecDepth 20000 in
theorem gX10_mark_X0_mark_s15 : GoodIn wsX10_mark (va_wsSU RX10 15 yX0_mark wsX0_mark) := goodIn_app (goodIn_of _ (by decide +kernel)) ggX10_mark_X0_mark
set_option maxRecDepth 20000 in
theorem ggX11_init_X8_init : GoodIn wsX11_init wsX8_init := goodIn_r _ [30, 31, 2, 3, 32, 33, 34, 35, 36, 37, 38, 39, 40, 41, 74, 75, 76, 77, 78, 79, 80, 81, 82] (by decide +kernel) (by decide +kernel)
set_option maxRecDepth 20000 in
theorem gX11_init_X8_init_n17 : GoodIn wsX11_init (wsX8_init) := ggX11_init_X8_init
set_option maxRecDepth 20000 in
theorem ggX11_init_X9_init : GoodIn wsX11_init wsX9_init := goodIn_r _ [43, 44, 2, 3, 32, 45, 46, 83, 84] (by decide +kernel) (by decide +kernel)
set_option maxRecDepth 20000 in
theorem gX11_init_X9_init_n24 : GoodIn wsX11_init (wsX9_init) := ggX11_init_X9_init
set_option maxRecDepth 20000 in
theorem ggX11_init_X4_init : GoodIn wsX11_init wsX4_init := goodIn_r _ [48, 49, 2, 3, 32, 50, 51, 52, 53, 54, 55, 85, 86, 87, 88, 89] (by decide +kernel) (by decide +kernel)
set_option maxRecDepth 20000 in
theorem gX11_init_X4_init_n31 : GoodIn wsX11_init (wsX4_init) := ggX11_init_X4_init
set_option maxRecDepth 20000 in
theorem ggX11_init_X7_init : GoodIn wsX11_init wsX7_init := goodIn_r _ [57, 58, 2, 3, 32, 59, 60, 61, 90, 91, 92] (by decide +kernel) (by decide +kernel)
set_option maxRecDepth 20000 in
theorem gX11_init_X7_init_n66 : GoodIn wsX11_init (wsX7_init) := ggX11_init_X7_init
set_option maxRecDepth 20000 in
theorem ggX11_row_X11_rowAt : GoodIn wsX11_row wsX11_rowAt := goodIn_r _ [6, 7, 33, 34, 35, 36, 37, 38, 39, 40, 41, 42, 43, 44] (by decide +kernel) (by decide +kernel)
set_option maxRecDepth 20000 in
theorem gX11_row_X11_rowAt : GoodIn wsX11_row (wsV RX11 67 RX11 yX11_rowAt wsX11_rowAt) := goodIn_app (goodIn_of _ (by decide +kernel)) ggX11_row_X11_rowAt
set_option maxRecDepth 20000 in
theorem ggX11_row_X11_finding : GoodIn wsX11_row wsX11_finding := goodIn_r _ [11, 12, 13, 33, 34, 35, 36, 37, 38, 39, 40, 41, 42, 43, 44] (by decide +kernel) (by decide +kernel)
set_option maxRecDepth 20000 in
theorem gX11_row_X11_finding : GoodIn wsX11_row (wsV RX11 72 RX11 yX11_finding wsX11_finding) := goodIn_app (goodIn_of _ (by decide +kernel)) ggX11_row_X11_finding
set_option maxRecDepth 20000 in
theorem ggX11_row_X7_begin : GoodIn wsX11_row wsX7_begin := goodIn_r _ [18, 19, 20, 21, 22, 23, 24, 25, 26, 27, 28, 45, 46, 47] (by decide +kernel) (by decide +kernel)
set_option maxRecDepth 20000 in
theorem gX11_row_X7_begin : GoodIn wsX11_row (wsV RX11 76 RX7 yX7_begin wsX7_begin) := goodIn_app (goodIn_of _ (by decide +kernel)) ggX11_row_X7_begin
set_option maxRecDepth 20000 in
theorem ggX11_row_X11_withoutFinding : GoodIn wsX11_row wsX11_withoutFinding := goodIn_r _ [32, 12, 33, 34, 35, 36, 37, 38, 39, 40, 41, 42, 43, 44] (by decide +kernel) (by decide +kernel)
set_option maxRecDepth 20000 in
theorem gX11_row_X11_withoutFinding : GoodIn wsX11_row (wsV RX11 80 RX11 yX11_withoutFinding wsX11_withoutFinding) := goodIn_app (goodIn_of _ (by decide +kernel)) ggX11_row_X11_withoutFinding
set_option maxRecDepth 20000 in
theorem ggX11_set_X11_rowAt : GoodIn wsX11_set wsX11_rowAt := goodIn_r _ [6, 7, 34, 35, 36, 37, 38, 39, 40, 41, 42, 43, 44, 45] (by decide +kernel) (by decide +kernel)
set_option maxRecDepth 20000 in
theorem gX11_set_X11_rowAt : GoodIn wsX11_set (wsV RX11 67 RX11 yX11_rowAt wsX11_rowAt) := goodIn_app (goodIn_of _ (by decide +kernel)) ggX11_set_X11_rowAt
set_option maxRecDepth 20000 in
theorem ggX11_set_X7_isMissing : GoodIn wsX11_set wsX7_isMissing := goodIn_r _ [12, 13, 46, 47, 48] (by decide +kernel) (by decide +kernel)
set_option maxRecDepth 20000 in
theorem gX11_set_X7_isMissing : GoodIn wsX11_set (wsV RX11 83 RX7 yX7_isMissing wsX7_isMissing) := goodIn_app (goodIn_of _ (by decide +kernel)) ggX11_set_X7_isMissing
set_option maxRecDepth 20000 in
theorem ggX11_set_X11_finding : GoodIn wsX11_set wsX11_finding := goodIn_r _ [17, 18, 19, 34, 35, 36, 37, 38, 39, 40, 41, 42, 43, 44, 45] (by decide +kernel) (by decide +kernel)
set_option maxRecDepth 20000 in
theorem gX11_set_X11_finding : GoodIn wsX11_set (wsV RX11 72 RX11 yX11_finding wsX11_finding) := goodIn_app (goodIn_of _ (by decide +kernel)) ggX11_set_X11_finding
set_option maxRecDepth 20000 in
theorem ggX11_set_X7_hasPlaces : GoodIn wsX11_set wsX7_hasPlaces := goodIn_r _ [23, 24, 46, 47, 48] (by decide +kernel) (by decide +kernel)
set_option maxRecDepth 20000 in
theorem gX11_set_X7_hasPlaces : GoodIn wsX11_set (wsV RX11 87 RX7 yX7_hasPlaces wsX7_hasPlaces) := goodIn_app (goodIn_of _ (by decide +kernel)) ggX11_set_X7_hasPlaces
set_option maxRecDepth 20000 in
theorem ggX11_set_X7_keep : GoodIn wsX11_set wsX7_keep := goodIn_r _ [28, 29, 13, 46, 47, 48] (by decide +kernel) (by decide +kernel)
set_option maxRecDepth 20000 in
theorem gX11_set_X7_keep : GoodIn wsX11_set (wsV RX11 91 RX7 yX7_keep wsX7_keep) := goodIn_app (goodIn_of _ (by decide +kernel)) ggX11_set_X7_keep
set_option maxRecDepth 20000 in
theorem ggX11_set_X11_withoutFinding : GoodIn wsX11_set wsX11_withoutFinding := goodIn_r _ [33, 18, 34, 35, 36, 37, 38, 39, 40, 41, 42, 43, 44, 45] (by decide +kernel) (by decide +kernel)
set_option maxRecDepth 20000 in
theorem gX11_set_X11_withoutFinding : GoodIn wsX11_set (wsV RX11 80 RX11 yX11_withoutFinding wsX11_withoutFinding) := goodIn_app (goodIn_of _ (by decide +kernel)) ggX11_set_X11_withoutFinding
set_option maxRecDepth 20000 in
theorem ggX11_copy_X11_rowAt : GoodIn wsX11_copy wsX11_rowAt := goodIn_r _ [12, 13, 38, 39, 40, 41, 42, 43, 44, 45, 46, 47, 48, 49] (by decide +kernel) (by decide +kernel)
set_option maxRecDepth 20000 in
theorem gX11_copy_X11_rowAt : GoodIn wsX11_copy (wsV RX11 67 RX11 yX11_rowAt wsX11_rowAt) := goodIn_app (goodIn_of _ (by decide +kernel)) ggX11_copy_X11_rowAt
set_option maxRecDepth 20000 in
theorem ggX11_copy_X7_isMissing : GoodIn wsX11_copy wsX7_isMissing := goodIn_r _ [18, 19, 35, 36, 37] (by decide +kernel) (by decide +kernel)
set_option maxRecDepth 20000 in
theorem gX11_copy_X7_isMissing : GoodIn wsX11_copy (wsV RX11 83 RX7 yX7_isMissing wsX7_isMissing) := goodIn_app (goodIn_of _ (by decide +kernel)) ggX11_copy_X7_isMissing
set_option maxRecDepth 20000 in
theorem ggX11_copy_X11_finding : GoodIn wsX11_copy wsX11_finding := goodIn_r _ [23, 24, 25, 38, 39, 40, 41, 42, 43, 44, 45, 46, 47, 48, 49] (by decide +kernel) (by decide +kernel)
set_option maxRecDepth 20000 in
theorem gX11_copy_X11_finding : GoodIn wsX11_copy (wsV RX11 72 RX11 yX11_finding wsX11_finding) := goodIn_app (goodIn_of _ (by decide +kernel)) ggX11_copy_X11_finding
set_option maxRecDepth 20000 in
theorem ggX11_copy_X7_hasPlaces : GoodIn wsX11_copy wsX7_hasPlaces := goodIn_r _ [29, 30, 35, 36, 37] (by decide +kernel) (by decide +kernel)
set_option maxRecDepth 20000 in
theorem gX11_copy_X7_hasPlaces : GoodIn wsX11_copy (wsV RX11 87 RX7 yX7_hasPlaces wsX7_hasPlaces) := goodIn_app (goodIn_of _ (by decide +kernel)) ggX11_copy_X7_hasPlaces
set_option maxRecDepth 20000 in
theorem ggX11_copy_X11_withoutFinding : GoodIn wsX11_copy wsX11_withoutFinding := goodIn_r _ [34, 24, 38, 39, 40, 41, 42, 43, 44, 45, 46, 47, 48, 49] (by decide +kernel) (by decide +kernel)
set_option maxRecDepth 20000 in
theorem gX11_copy_X11_withoutFinding : GoodIn wsX11_copy (wsV RX11 80 RX11 yX11_withoutFinding wsX11_withoutFinding) := goodIn_app (goodIn_of _ (by decide +kernel)) ggX11_copy_X11_withoutFinding
set_option maxRecDepth 20000 in
theorem ggX11_drop_X11_rowAt : GoodIn wsX11_drop wsX11_rowAt := goodIn_r _ [8, 9, 29, 30, 31, 32, 33, 34, 35, 36, 37, 38, 39, 40] (by decide +kernel) (by decide +kernel)
set_option maxRecDepth 20000 in
theorem gX11_drop_X11_rowAt : GoodIn wsX11_drop (wsV RX11 67 RX11 yX11_rowAt wsX11_rowAt) := goodIn_app (goodIn_of _ (by decide +kernel)) ggX11_drop_X11_rowAt
set_option maxRecDepth 20000 in
theorem ggX11_drop_X7_isMissing : GoodIn wsX11_drop wsX7_isMissing := goodIn_r _ [14, 15, 26, 27, 28] (by decide +kernel) (by decide +kernel)
set_option maxRecDepth 20000 in
theorem gX11_drop_X7_isMissing : GoodIn wsX11_drop (wsV RX11 83 RX7 yX7_isMissing wsX7_isMissing) := goodIn_app (goodIn_of _ (by decide +kernel)) ggX11_drop_X7_isMissing
set_option maxRecDepth 20000 in
theorem ggX11_drop_X11_finding : GoodIn wsX11_drop wsX11_finding := goodIn_r _ [19, 20, 21, 29, 30, 31, 32, 33, 34, 35, 36, 37, 38, 39, 40] (by decide +kernel) (by decide +kernel)
set_option maxRecDepth 20000 in
theorem gX11_drop_X11_finding : GoodIn wsX11_drop (wsV RX11 72 RX11 yX11_finding wsX11_finding) := goodIn_app (goodIn_of _ (by decide +kernel)) ggX11_drop_X11_finding
set_option maxRecDepth 20000 in
theorem ggX11_drop_X11_withoutFinding : GoodIn wsX11_drop wsX11_withoutFinding := goodIn_r _ [25, 20, 29, 30, 31, 32, 33, 34, 35, 36, 37, 38, 39, 40] (by decide +kernel) (by decide +kernel)
set_option maxRecDepth 20000 in
theorem gX11_drop_X11_withoutFinding : GoodIn wsX11_drop (wsV RX11 80 RX11 yX11_withoutFinding wsX11_withoutFinding) := goodIn_app (goodIn_of _ (by decide +kernel)) ggX11_drop_X11_withoutFinding
set_option maxRecDepth 20000 in
theorem ggX11_feed_X8_take : GoodIn wsX11_feed wsX8_take := goodIn_r _ [9, 10, 11, 24, 25, 26, 27, 28, 29, 30, 31, 32] (by decide +kernel) (by decide +kernel)
set_option maxRecDepth 20000 in
theorem gX11_feed_X8_take : GoodIn wsX11_feed (wsV RX11 112 RX8 yX8_take wsX8_take) := goodIn_app (goodIn_of _ (by decide +kernel)) ggX11_feed_X8_take
set_option maxRecDepth 20000 in
theorem ggX11_ground_X8_readGround : GoodIn wsX11_ground wsX8_readGround := goodIn_r _ [14, 15, 16, 17, 18, 19, 20, 21, 22, 23, 24, 25, 26, 27, 28, 29, 30, 31, 32, 33, 34, 35, 36, 37, 38, 39, 40, 41, 42, 43, 44, 45, 46, 47, 48, 49, 50, 51, 52, 53, 54, 13, 55, 56, 57, 58, 59, 60, 61, 62, 63, 64, 65, 66, 67, 68, 69, 70, 71, 72, 73, 74, 75, 76, 77, 78, 79, 80, 81, 82, 83, 84, 85, 86, 87, 88, 89, 90, 91, 92, 93, 94, 95, 96, 97, 98, 99, 100, 101, 102, 103, 104, 105, 106, 107, 108, 109, 110, 111, 112, 113, 114, 115, 116, 117, 118, 119, 120, 121, 122, 123, 124, 125, 126, 127, 128, 129, 130, 131, 132, 133, 134, 135, 136, 137, 138, 139, 140, 141, 142, 143, 144, 145, 146, 147, 148, 149, 150, 151, 152, 153, 154, 155, 156, 157, 158, 159, 160, 161, 162, 163, 164, 165, 166, 167, 168, 169, 170, 171, 172, 173, 174, 175, 176, 177, 178, 179, 180, 181, 182, 183, 184, 185, 186, 187, 188, 189, 190, 191, 192, 193, 194, 195, 196, 197, 198, 199, 200, 201, 202, 203, 204, 205, 206, 207, 208, 209, 210, 211, 212, 213, 214, 215, 216, 217, 218, 219, 220, 221, 222, 223, 224, 225, 265, 266, 267, 268, 269, 270, 271, 272, 273, 274, 275, 256, 257, 258, 259, 260, 261, 262, 263, 264, 276, 277, 278, 279, 280, 281, 282, 283, 284, 285, 286, 287, 288, 289, 290, 291, 292, 293, 294, 295, 296, 297, 298, 299, 300] (by decide +kernel) (by decide +kernel)
set_option maxRecDepth 20000 in
theorem gX11_ground_X8_readGround : GoodIn wsX11_ground (wsV RX11 118 RX8 yX8_readGround wsX8_readGround) := goodIn_app (goodIn_of _ (by decide +kernel)) ggX11_ground_X8_readGround
set_option maxRecDepth 20000 in
theorem ggX11_ground_X4_begin : GoodIn wsX11_ground wsX4_begin := goodIn_r _ [229, 49, 230, 231, 232, 233, 234, 41, 235, 47, 236, 237, 238, 239, 240, 241, 242, 243, 50, 51, 276, 277, 278, 279, 280, 265, 266, 267, 268, 269, 270, 271, 272, 273, 274, 275] (by decide +kernel) (by decide +kernel)
set_option maxRecDepth 20000 in
theorem gX11_ground_X4_begin : GoodIn wsX11_ground (wsV RX11 129 RX4 yX4_begin wsX4_begin) := goodIn_app (goodIn_of _ (by decide +kernel)) ggX11_ground_X4_begin
set_option maxRecDepth 20000 in
theorem ggX11_cross_X11_personAt : GoodIn wsX11_cross wsX11_personAt := goodIn_r _ [10, 1, 11, 12, 13, 14, 15, 16, 17, 111, 112, 113, 114, 115, 116, 117, 118, 119, 120, 121, 122, 128, 129, 130, 131, 132, 133, 134, 135, 136, 137, 138] (by decide +kernel) (by decide +kernel)
set_option maxRecDepth 20000 in
theorem gX11_cross_X11_personAt : GoodIn wsX11_cross (wsV RX11 135 RX11 yX11_personAt wsX11_personAt) := goodIn_app (goodIn_of _ (by decide +kernel)) ggX11_cross_X11_personAt
set_option maxRecDepth 20000 in
theorem ggX11_cross_X11_isCell : GoodIn wsX11_cross wsX11_isCell := goodIn_r _ [20] (by decide +kernel) (by decide +kernel)
set_option maxRecDepth 20000 in
theorem gX11_cross_X11_isCell : GoodIn wsX11_cross (va_wsS RX11 139 yX11_isCell wsX11_isCell) := goodIn_app (goodIn_of _ (by decide +kernel)) ggX11_cross_X11_isCell
set_option maxRecDepth 20000 in
theorem ggX11_cross_X3_mayCross : GoodIn wsX11_cross wsX3_mayCross := goodIn_r _ [24, 25, 26, 27, 28, 29, 30, 31, 32, 33, 34, 35, 36, 37, 38, 39, 40, 41, 42, 43, 44, 45, 46, 47, 48, 49, 50, 51, 52, 53, 54, 55, 139, 140, 141, 142, 143, 144, 145, 146, 147, 148, 149, 150, 151, 152, 153, 154, 155, 156, 157, 158, 128, 129, 130, 131, 132, 133, 134, 135, 136, 137, 138, 123, 124, 125, 126, 127] (by decide +kernel) (by decide +kernel)
set_option maxRecDepth 20000 in
theorem gX11_cross_X3_mayCross : GoodIn wsX11_cross (wsV RX11 143 RX3 yX3_mayCross wsX3_mayCross) := goodIn_app (goodIn_of _ (by decide +kernel)) ggX11_cross_X3_mayCross
set_option maxRecDepth 20000 in
theorem ggX11_cross_X11_keepAct : GoodIn wsX11_cross wsX11_keepAct := goodIn_r _ [59, 60, 61, 62, 3, 63, 64, 65, 52, 66, 67, 68, 69, 70, 71, 72, 73, 54, 55, 111, 112, 113, 114, 115, 116, 117, 118, 119, 120, 121, 122, 123, 124, 125, 126, 127] (by decide +kernel) (by decide +kernel)
set_option maxRecDepth 20000 in
theorem gX11_cross_X11_keepAct : GoodIn wsX11_cross (wsV RX11 148 RX11 yX11_keepAct wsX11_keepAct) := goodIn_app (goodIn_of _ (by decide +kernel)) ggX11_cross_X11_keepAct
set_option maxRecDepth 20000 in
theorem ggX11_cross_X4_move : GoodIn wsX11_cross wsX4_move := goodIn_r _ [77, 78, 79, 80, 67, 81, 82, 83, 84, 85, 86, 52, 87, 68, 73, 88, 89, 90, 91, 92, 93, 94, 95, 96, 97, 98, 99, 100, 101, 102, 103, 104, 105, 106, 107, 108, 109, 110, 54, 55, 123, 124, 125, 126, 127, 128, 129, 130, 131, 132, 133, 134, 135, 136, 137, 138] (by decide +kernel) (by decide +kernel)
set_option maxRecDepth 20000 in
theorem gX11_cross_X4_move : GoodIn wsX11_cross (wsV RX11 151 RX4 yX4_move wsX4_move) := goodIn_app (goodIn_of _ (by decide +kernel)) ggX11_cross_X4_move
set_option maxRecDepth 20000 in
theorem ggX11_undo_X4_become : GoodIn wsX11_undo wsX4_become := goodIn_r _ [10, 11, 12, 13, 14, 15, 16, 17, 18, 19, 32, 33, 34, 35, 36] (by decide +kernel) (by decide +kernel)
set_option maxRecDepth 20000 in
theorem gX11_undo_X4_become : GoodIn wsX11_undo (wsV RX11 156 RX4 yX4_become wsX4_become) := goodIn_app (goodIn_of _ (by decide +kernel)) ggX11_undo_X4_become
set_option maxRecDepth 20000 in
theorem ggX11_person_X11_personAt : GoodIn wsX11_person wsX11_personAt := goodIn_r _ [11, 1, 12, 13, 14, 15, 16, 17, 18, 58, 59, 60, 61, 62, 63, 64, 65, 66, 67, 68, 69, 90, 91, 92, 93, 94, 95, 96, 97, 98, 99, 100] (by decide +kernel) (by decide +kernel)
set_option maxRecDepth 20000 in
theorem gX11_person_X11_personAt : GoodIn wsX11_person (wsV RX11 135 RX11 yX11_personAt wsX11_personAt) := goodIn_app (goodIn_of _ (by decide +kernel)) ggX11_person_X11_personAt
set_option maxRecDepth 20000 in
theorem ggX11_person_X3_waysOf : GoodIn wsX11_person wsX3_waysOf := goodIn_r _ [22, 23, 24, 25, 15, 26, 27, 28, 29, 30, 31, 32, 33, 34, 35, 36, 37, 38, 39, 40, 41, 42, 43, 44, 45, 46, 47, 48, 49, 50, 51, 52, 53, 54, 55, 56, 57, 70, 71, 72, 73, 74, 75, 76, 77, 78, 79, 80, 81, 82, 83, 84, 85, 86, 87, 88, 89, 90, 91, 92, 93, 94, 95, 96, 97, 98, 99, 100, 101, 102, 103, 104, 105] (by decide +kernel) (by decide +kernel)
set_option maxRecDepth 20000 in
theorem gX11_person_X3_waysOf : GoodIn wsX11_person (wsV RX11 171 RX3 yX3_waysOf wsX3_waysOf) := goodIn_app (goodIn_of _ (by decide +kernel)) ggX11_person_X3_waysOf
set_option maxRecDepth 20000 in
theorem ggX11_cell_X11_isCell : GoodIn wsX11_cell wsX11_isCell := goodIn_r _ [10] (by decide +kernel) (by decide +kernel)
set_option maxRecDepth 20000 in
theorem gX11_cell_X11_isCell : GoodIn wsX11_cell (va_wsS RX11 139 yX11_isCell wsX11_isCell) := goodIn_app (goodIn_of _ (by decide +kernel)) ggX11_cell_X11_isCell
set_option maxRecDepth 20000 in
theorem ggX11_cell_X4_ownerOf : GoodIn wsX11_cell wsX4_ownerOf := goodIn_r _ [15, 16, 17, 51, 52, 53, 54, 55] (by decide +kernel) (by decide +kernel)
set_option maxRecDepth 20000 in
theorem gX11_cell_X4_ownerOf : GoodIn wsX11_cell (wsV RX11 175 RX4 yX4_ownerOf wsX4_ownerOf) := goodIn_app (goodIn_of _ (by decide +kernel)) ggX11_cell_X4_ownerOf
set_option maxRecDepth 20000 in
theorem ggX11_cell_X4_isCorner : GoodIn wsX11_cell wsX4_isCorner := goodIn_r _ [21, 22, 23, 24, 25, 14, 26, 27, 51, 52, 53, 54, 55] (by decide +kernel) (by decide +kernel)
set_option maxRecDepth 20000 in
theorem gX11_cell_X4_isCorner : GoodIn wsX11_cell (wsV RX11 185 RX4 yX4_isCorner wsX4_isCorner) := goodIn_app (goodIn_of _ (by decide +kernel)) ggX11_cell_X4_isCorner
set_option maxRecDepth 20000 in
theorem ggX11_land_X11_isLand : GoodIn wsX11_land wsX11_isLand := goodIn_r _ [8] (by decide +kernel) (by decide +kernel)
set_option maxRecDepth 20000 in
theorem gX11_land_X11_isLand : GoodIn wsX11_land (va_wsS RX11 188 yX11_isLand wsX11_isLand) := goodIn_app (goodIn_of _ (by decide +kernel)) ggX11_land_X11_isLand
set_option maxRecDepth 20000 in
theorem ggX11_land_X3_cellsOf : GoodIn wsX11_land wsX3_cellsOf := goodIn_r _ [13, 14, 15, 38, 39, 40, 41, 42] (by decide +kernel) (by decide +kernel)
set_option maxRecDepth 20000 in
theorem gX11_land_X3_cellsOf : GoodIn wsX11_land (wsV RX11 191 RX3 yX3_cellsOf wsX3_cellsOf) := goodIn_app (goodIn_of _ (by decide +kernel)) ggX11_land_X3_cellsOf
set_option maxRecDepth 20000 in
theorem ggX11_land_X3_worthOf : GoodIn wsX11_land wsX3_worthOf := goodIn_r _ [19, 20, 14, 15, 43, 44, 45, 46, 47, 48, 49, 50, 51, 52, 53, 38, 39, 40, 41, 42] (by decide +kernel) (by decide +kernel)
set_option maxRecDepth 20000 in
theorem gX11_land_X3_worthOf : GoodIn wsX11_land (wsV RX11 195 RX3 yX3_worthOf wsX3_worthOf) := goodIn_app (goodIn_of _ (by decide +kernel)) ggX11_land_X3_worthOf
set_option maxRecDepth 20000 in
theorem ggX11_land_X3_leadOf : GoodIn wsX11_land wsX3_leadOf := goodIn_r _ [24, 25, 17, 18, 12, 19, 20, 14, 15, 43, 44, 45, 46, 47, 48, 49, 50, 51, 52, 53, 38, 39, 40, 41, 42] (by decide +kernel) (by decide +kernel)
set_option maxRecDepth 20000 in
theorem gX11_land_X3_leadOf : GoodIn wsX11_land (wsV RX11 198 RX3 yX3_leadOf wsX3_leadOf) := goodIn_app (goodIn_of _ (by decide +kernel)) ggX11_land_X3_leadOf
set_option maxRecDepth 20000 in
theorem ggX11_personAt_X3_personAt : GoodIn wsX11_personAt wsX3_personAt := goodIn_r _ [6, 7, 8, 21, 22, 23, 24, 25, 26, 27, 28, 29, 30, 31] (by decide +kernel) (by decide +kernel)
set_option maxRecDepth 20000 in
theorem gX11_personAt_X3_personAt : GoodIn wsX11_personAt (wsV RX11 201 RX3 yX3_personAt wsX3_personAt) := goodIn_app (goodIn_of _ (by decide +kernel)) ggX11_personAt_X3_personAt
set_option maxRecDepth 20000 in
theorem ggX11_keepAct_X4_become : GoodIn wsX11_keepAct wsX4_become := goodIn_r _ [9, 10, 11, 12, 13, 14, 15, 16, 17, 18, 31, 32, 33, 34, 35] (by decide +kernel) (by decide +kernel)
set_option maxRecDepth 20000 in
theorem gX11_keepAct_X4_become : GoodIn wsX11_keepAct (wsV RX11 156 RX4 yX4_become wsX4_become) := goodIn_app (goodIn_of _ (by decide +kernel)) ggX11_keepAct_X4_become
set_option maxRecDepth 20000 in
theorem ggX11_best_X11_personAt : GoodIn wsX11_best wsX11_personAt := goodIn_r _ [9, 1, 10, 11, 12, 13, 14, 15, 16, 129, 130, 131, 132, 133, 134, 135, 136, 137, 138, 139, 140, 141, 142, 143, 144, 145, 146, 147, 148, 149, 150, 151] (by decide +kernel) (by decide +kernel)
set_option maxRecDepth 20000 in
theorem gX11_best_X11_personAt : GoodIn wsX11_best (wsV RX11 135 RX11 yX11_personAt wsX11_personAt) := goodIn_app (goodIn_of _ (by decide +kernel)) ggX11_best_X11_personAt
set_option maxRecDepth 20000 in
theorem ggX11_best_X3_bestOf : GoodIn wsX11_best wsX3_bestOf := goodIn_r _ [20, 21, 22, 23, 24, 25, 13, 26, 27, 28, 29, 30, 31, 32, 33, 34, 35, 36, 37, 38, 39, 40, 41, 42, 43, 44, 45, 46, 47, 48, 49, 50, 51, 52, 53, 54, 55, 56, 57, 58, 59, 60, 61, 62, 63, 64, 65, 66, 67, 68, 69, 70, 71, 72, 73, 74, 75, 76, 77, 78, 79, 80, 81, 82, 83, 84, 85, 86, 87, 88, 89, 90, 91, 92, 93, 94, 95, 96, 97, 98, 99, 100, 101, 102, 103, 104, 105, 106, 107, 108, 109, 110, 111, 112, 113, 114, 115, 116, 117, 118, 119, 120, 121, 122, 123, 124, 152, 153, 154, 155, 156, 157, 158, 159, 160, 161, 162, 163, 164, 165, 166, 167, 168, 169, 170, 171, 141, 142, 143, 144, 145, 146, 147, 148, 149, 150, 151, 172, 173, 174, 175, 176] (by decide +kernel) (by decide +kernel)
set_option maxRecDepth 20000 in
theorem gX11_best_X3_bestOf : GoodIn wsX11_best (wsV RX11 202 RX3 yX3_bestOf wsX3_bestOf) := goodIn_app (goodIn_of _ (by decide +kernel)) ggX11_best_X3_bestOf
set_option maxRecDepth 20000 in
theorem ggX11_best_X3_leadBehind : GoodIn wsX11_best wsX3_leadBehind := goodIn_r _ [128, 22, 57, 58, 59, 13, 60, 61, 62, 63, 64, 53, 65, 66, 67, 68, 69, 70, 71, 72, 55, 56, 73, 74, 75, 76, 77, 78, 79, 80, 81, 82, 83, 84, 85, 86, 87, 88, 89, 90, 91, 92, 93, 94, 95, 96, 97, 98, 99, 100, 101, 102, 103, 104, 105, 106, 107, 108, 109, 110, 111, 112, 113, 114, 115, 116, 117, 118, 119, 120, 152, 153, 154, 155, 156, 157, 158, 159, 160, 161, 162, 163, 164, 165, 166, 167, 168, 169, 170, 171, 141, 142, 143, 144, 145, 146, 147, 148, 149, 150, 151, 172, 173, 174, 175, 176] (by decide +kernel) (by decide +kernel)
set_option maxRecDepth 20000 in
theorem gX11_best_X3_leadBehind : GoodIn wsX11_best (wsV RX11 206 RX3 yX3_leadBehind wsX3_leadBehind) := goodIn_app (goodIn_of _ (by decide +kernel)) ggX11_best_X3_leadBehind
set_option maxRecDepth 20000 in
theorem ggX11_answer_X11_personAt : GoodIn wsX11_answer wsX11_personAt := goodIn_r _ [9, 1, 10, 11, 12, 13, 14, 15, 16, 136, 137, 138, 139, 140, 141, 142, 143, 144, 145, 146, 147, 148, 149, 150, 151, 152, 153, 154, 155, 156, 157, 158] (by decide +kernel) (by decide +kernel)
set_option maxRecDepth 20000 in
theorem gX11_answer_X11_personAt : GoodIn wsX11_answer (wsV RX11 135 RX11 yX11_personAt wsX11_personAt) := goodIn_app (goodIn_of _ (by decide +kernel)) ggX11_answer_X11_personAt
set_option maxRecDepth 20000 in
theorem ggX11_answer_X3_bestOf : GoodIn wsX11_answer wsX3_bestOf := goodIn_r _ [20, 21, 22, 23, 24, 25, 13, 26, 27, 28, 29, 30, 31, 32, 33, 34, 35, 36, 37, 38, 39, 40, 41, 42, 43, 44, 45, 46, 47, 48, 49, 50, 51, 52, 53, 54, 55, 56, 57, 58, 59, 60, 61, 62, 63, 64, 65, 66, 67, 68, 69, 70, 71, 72, 73, 74, 75, 76, 77, 78, 79, 80, 81, 82, 83, 84, 85, 86, 87, 88, 89, 90, 91, 92, 93, 94, 95, 96, 97, 98, 99, 100, 101, 102, 103, 104, 105, 106, 107, 108, 109, 110, 111, 112, 113, 114, 115, 116, 117, 118, 119, 120, 121, 122, 123, 124, 159, 160, 161, 162, 163, 164, 165, 166, 167, 168, 169, 170, 171, 172, 173, 174, 175, 176, 177, 178, 148, 149, 150, 151, 152, 153, 154, 155, 156, 157, 158, 179, 180, 181, 182, 183] (by decide +kernel) (by decide +kernel)
set_option maxRecDepth 20000 in
theorem gX11_answer_X3_bestOf : GoodIn wsX11_answer (wsV RX11 202 RX3 yX3_bestOf wsX3_bestOf) := goodIn_app (goodIn_of _ (by decide +kernel)) ggX11_answer_X3_bestOf
set_option maxRecDepth 20000 in
theorem ggX11_answer_X3_lineBehind : GoodIn wsX11_answer wsX3_lineBehind := goodIn_r _ [128, 129, 62, 63, 64, 53, 65, 66, 67, 68, 69, 70, 71, 72, 55, 56, 130, 8, 131, 73, 74, 75, 76, 77, 78, 79, 80, 81, 82, 83, 84, 85, 86, 87, 88, 89, 90, 91, 92, 93, 94, 95, 96, 97, 98, 99, 100, 101, 102, 103, 104, 105, 106, 107, 108, 109, 148, 149, 150, 151, 152, 153, 154, 155, 156, 157, 158, 179, 180, 181, 182, 183] (by decide +kernel) (by decide +kernel)
set_option maxRecDepth 20000 in
theorem gX11_answer_X3_lineBehind : GoodIn wsX11_answer (wsV RX11 210 RX3 yX3_lineBehind wsX3_lineBehind) := goodIn_app (goodIn_of _ (by decide +kernel)) ggX11_answer_X3_lineBehind
set_option maxRecDepth 20000 in
theorem ggX11_answer_X3_leadBehind : GoodIn wsX11_answer wsX3_leadBehind := goodIn_r _ [135, 22, 57, 58, 59, 13, 60, 61, 62, 63, 64, 53, 65, 66, 67, 68, 69, 70, 71, 72, 55, 56, 73, 74, 75, 76, 77, 78, 79, 80, 81, 82, 83, 84, 85, 86, 87, 88, 89, 90, 91, 92, 93, 94, 95, 96, 97, 98, 99, 100, 101, 102, 103, 104, 105, 106, 107, 108, 109, 110, 111, 112, 113, 114, 115, 116, 117, 118, 119, 120, 159, 160, 161, 162, 163, 164, 165, 166, 167, 168, 169, 170, 171, 172, 173, 174, 175, 176, 177, 178, 148, 149, 150, 151, 152, 153, 154, 155, 156, 157, 158, 179, 180, 181, 182, 183] (by decide +kernel) (by decide +kernel)
set_option maxRecDepth 20000 in
theorem gX11_answer_X3_leadBehind : GoodIn wsX11_answer (wsV RX11 206 RX3 yX3_leadBehind wsX3_leadBehind) := goodIn_app (goodIn_of _ (by decide +kernel)) ggX11_answer_X3_leadBehind
set_option maxRecDepth 20000 in
theorem ggX11_game_X11_personAt : GoodIn wsX11_game wsX11_personAt := goodIn_r _ [8, 1, 9, 10, 11, 12, 13, 14, 15, 140, 141, 142, 143, 144, 145, 146, 147, 148, 149, 150, 151, 152, 153, 154, 155, 156, 157, 158, 159, 160, 161, 162] (by decide +kernel) (by decide +kernel)
set_option maxRecDepth 20000 in
theorem gX11_game_X11_personAt : GoodIn wsX11_game (wsV RX11 135 RX11 yX11_personAt wsX11_personAt) := goodIn_app (goodIn_of _ (by decide +kernel)) ggX11_game_X11_personAt
set_option maxRecDepth 20000 in
theorem ggX11_game_X3_leadPlayed : GoodIn wsX11_game wsX3_leadPlayed := goodIn_r _ [19, 20, 21, 22, 23, 24, 25, 12, 26, 27, 28, 29, 30, 31, 32, 33, 34, 35, 36, 37, 38, 39, 40, 41, 42, 7, 43, 44, 45, 46, 47, 48, 49, 50, 51, 52, 53, 54, 55, 56, 57, 58, 59, 60, 61, 62, 63, 64, 65, 66, 67, 68, 69, 70, 71, 72, 73, 74, 75, 76, 77, 78, 79, 80, 81, 82, 83, 84, 85, 86, 87, 88, 89, 90, 91, 92, 93, 94, 95, 96, 97, 98, 99, 100, 101, 102, 103, 104, 105, 106, 107, 108, 109, 110, 111, 112, 113, 114, 115, 116, 117, 118, 119, 120, 121, 122, 123, 124, 125, 126, 127, 128, 129, 130, 131, 132, 133, 134, 135, 136, 137, 138, 163, 164, 165, 166, 167, 168, 169, 170, 171, 172, 173, 174, 175, 176, 177, 178, 179, 180, 181, 182, 152, 153, 154, 155, 156, 157, 158, 159, 160, 161, 162, 183, 184, 185, 186, 187] (by decide +kernel) (by decide +kernel)
set_option maxRecDepth 20000 in
theorem gX11_game_X3_leadPlayed : GoodIn wsX11_game (wsV RX11 214 RX3 yX3_leadPlayed wsX3_leadPlayed) := goodIn_app (goodIn_of _ (by decide +kernel)) ggX11_game_X3_leadPlayed
set_option maxRecDepth 20000 in
theorem ggX11_game_X3_mayCross : GoodIn wsX11_game wsX3_mayCross := goodIn_r _ [88, 89, 90, 91, 92, 93, 94, 21, 95, 96, 97, 98, 99, 100, 101, 102, 103, 104, 105, 106, 107, 108, 109, 110, 111, 112, 113, 114, 31, 115, 40, 41, 163, 164, 165, 166, 167, 168, 169, 170, 171, 172, 173, 174, 175, 176, 177, 178, 179, 180, 181, 182, 152, 153, 154, 155, 156, 157, 158, 159, 160, 161, 162, 183, 184, 185, 186, 187] (by decide +kernel) (by decide +kernel)
set_option maxRecDepth 20000 in
theorem gX11_game_X3_mayCross : GoodIn wsX11_game (wsV RX11 143 RX3 yX3_mayCross wsX3_mayCross) := goodIn_app (goodIn_of _ (by decide +kernel)) ggX11_game_X3_mayCross
set_option maxRecDepth 20000 in
theorem ggX11_held_X11_isLand : GoodIn wsX11_held wsX11_isLand := goodIn_r _ [8] (by decide +kernel) (by decide +kernel)
set_option maxRecDepth 20000 in
theorem gX11_held_X11_isLand : GoodIn wsX11_held (va_wsS RX11 188 yX11_isLand wsX11_isLand) := goodIn_app (goodIn_of _ (by decide +kernel)) ggX11_held_X11_isLand
set_option maxRecDepth 20000 in
theorem ggX11_held_X3_heldCells : GoodIn wsX11_held wsX3_heldCells := goodIn_r _ [13, 14, 15, 16, 17, 12, 18, 19, 20, 21, 22, 23, 24, 25, 26, 27, 28, 29, 30, 31, 32, 33, 34, 35, 36, 37, 38, 39, 40, 41, 42, 43, 44, 45, 46, 47, 48, 49, 50, 51, 52, 53, 54, 55, 56, 57, 58, 59, 60, 61, 62, 63, 64, 65, 66, 67, 68, 69, 70, 71, 72, 73, 74, 75, 76, 77, 78, 79, 80, 81, 82, 83, 84, 85, 86, 87, 88, 89, 90, 91, 92, 93, 94, 95, 96, 97, 98, 99, 100, 101, 102, 103, 104, 105, 106, 107, 108, 109, 110, 111, 112, 113, 114, 115, 128, 129, 130, 131, 132, 133, 134, 135, 136, 137, 138, 139, 140, 141, 142, 143, 144, 145, 146, 147, 148, 149, 150, 151, 152, 153, 154, 155, 156, 157, 158, 159, 160, 161, 162, 163] (by decide +kernel) (by decide +kernel)
set_option maxRecDepth 20000 in
theorem gX11_held_X3_heldCells : GoodIn wsX11_held (wsV RX11 218 RX3 yX3_heldCells wsX3_heldCells) := goodIn_app (goodIn_of _ (by decide +kernel)) ggX11_held_X3_heldCells
set_option maxRecDepth 20000 in
theorem ggX11_went_X11_rowAt : GoodIn wsX11_went wsX11_rowAt := goodIn_r _ [9, 10, 139, 140, 141, 142, 143, 144, 145, 146, 147, 148, 149, 150] (by decide +kernel) (by decide +kernel)
set_option maxRecDepth 20000 in
theorem gX11_went_X11_rowAt : GoodIn wsX11_went (wsV RX11 67 RX11 yX11_rowAt wsX11_rowAt) := goodIn_app (goodIn_of _ (by decide +kernel)) ggX11_went_X11_rowAt
set_option maxRecDepth 20000 in
theorem ggX11_went_X7_isMissing : GoodIn wsX11_went wsX7_isMissing := goodIn_r _ [15, 16, 151, 152, 153] (by decide +kernel) (by decide +kernel)
set_option maxRecDepth 20000 in
theorem gX11_went_X7_isMissing : GoodIn wsX11_went (wsV RX11 83 RX7 yX7_isMissing wsX7_isMissing) := goodIn_app (goodIn_of _ (by decide +kernel)) ggX11_went_X7_isMissing
set_option maxRecDepth 20000 in
theorem ggX11_went_X11_finding : GoodIn wsX11_went wsX11_finding := goodIn_r _ [20, 21, 22, 139, 140, 141, 142, 143, 144, 145, 146, 147, 148, 149, 150] (by decide +kernel) (by decide +kernel)
set_option maxRecDepth 20000 in
theorem gX11_went_X11_finding : GoodIn wsX11_went (wsV RX11 72 RX11 yX11_finding wsX11_finding) := goodIn_app (goodIn_of _ (by decide +kernel)) ggX11_went_X11_finding
set_option maxRecDepth 20000 in
theorem ggX11_went_X7_hasPlaces : GoodIn wsX11_went wsX7_hasPlaces := goodIn_r _ [26, 27, 151, 152, 153] (by decide +kernel) (by decide +kernel)
set_option maxRecDepth 20000 in
theorem gX11_went_X7_hasPlaces : GoodIn wsX11_went (wsV RX11 87 RX7 yX7_hasPlaces wsX7_hasPlaces) := goodIn_app (goodIn_of _ (by decide +kernel)) ggX11_went_X7_hasPlaces
set_option maxRecDepth 20000 in
theorem ggX11_went_X7_hasHeights : GoodIn wsX11_went wsX7_hasHeights := goodIn_r _ [31, 32, 151, 152, 153] (by decide +kernel) (by decide +kernel)
set_option maxRecDepth 20000 in
theorem gX11_went_X7_hasHeights : GoodIn wsX11_went (wsV RX11 222 RX7 yX7_hasHeights wsX7_hasHeights) := goodIn_app (goodIn_of _ (by decide +kernel)) ggX11_went_X7_hasHeights
set_option maxRecDepth 20000 in
theorem ggX11_went_X4_liesAs : GoodIn wsX11_went wsX4_liesAs := goodIn_r _ [37, 38, 39, 154, 155, 156, 157, 158, 151, 152, 153] (by decide +kernel) (by decide +kernel)
set_option maxRecDepth 20000 in
theorem gX11_went_X4_liesAs : GoodIn wsX11_went (wsV RX11 225 RX4 yX4_liesAs wsX4_liesAs) := goodIn_app (goodIn_of _ (by decide +kernel)) ggX11_went_X4_liesAs
set_option maxRecDepth 20000 in
theorem ggX11_went_X11_withoutFinding : GoodIn wsX11_went wsX11_withoutFinding := goodIn_r _ [43, 21, 139, 140, 141, 142, 143, 144, 145, 146, 147, 148, 149, 150] (by decide +kernel) (by decide +kernel)
set_option maxRecDepth 20000 in
theorem gX11_went_X11_withoutFinding : GoodIn wsX11_went (wsV RX11 80 RX11 yX11_withoutFinding wsX11_withoutFinding) := goodIn_app (goodIn_of _ (by decide +kernel)) ggX11_went_X11_withoutFinding
set_option maxRecDepth 20000 in
theorem ggX11_went_X3_waysTo : GoodIn wsX11_went wsX3_waysTo := goodIn_r _ [48, 49, 50, 51, 52, 53, 54, 47, 55, 56, 57, 58, 59, 60, 61, 62, 63, 64, 65, 66, 67, 68, 69, 70, 71, 72, 73, 74, 75, 76, 77, 78, 79, 80, 81, 82, 36, 83, 38, 84, 85, 86, 87, 88, 89, 90, 91, 92, 93, 94, 95, 96, 97, 98, 99, 100, 101, 102, 103, 104, 105, 106, 107, 108, 109, 110, 111, 112, 113, 114, 115, 116, 117, 118, 119, 120, 121, 122, 123, 124, 125, 126, 127, 128, 129, 130, 131, 132, 133, 134, 135, 136, 137, 138, 34, 35, 37, 39, 159, 160, 161, 162, 163, 164, 165, 166, 167, 168, 169, 170, 171, 172, 173, 174, 175, 176, 177, 178, 179, 180, 181, 182, 183, 184, 185, 186, 187, 188, 189, 154, 155, 156, 157, 158, 151, 152, 153] (by decide +kernel) (by decide +kernel)
set_option maxRecDepth 20000 in
theorem gX11_went_X3_waysTo : GoodIn wsX11_went (wsV RX11 229 RX3 yX3_waysTo wsX3_waysTo) := goodIn_app (goodIn_of _ (by decide +kernel)) ggX11_went_X3_waysTo
set_option maxRecDepth 20000 in
theorem ggX11_image_X4_become : GoodIn wsX11_image wsX4_become := goodIn_r _ [11, 12, 13, 14, 15, 16, 17, 18, 19, 20, 33, 34, 35, 36, 37] (by decide +kernel) (by decide +kernel)
set_option maxRecDepth 20000 in
theorem gX11_image_X4_become : GoodIn wsX11_image (wsV RX11 156 RX4 yX4_become wsX4_become) := goodIn_app (goodIn_of _ (by decide +kernel)) ggX11_image_X4_become
set_option maxRecDepth 20000 in
theorem ggX11_restore_X4_become : GoodIn wsX11_restore wsX4_become := goodIn_r _ [12, 13, 14, 15, 16, 17, 18, 19, 20, 21, 34, 35, 36, 37, 38] (by decide +kernel) (by decide +kernel)
set_option maxRecDepth 20000 in
theorem gX11_restore_X4_become : GoodIn wsX11_restore (wsV RX11 156 RX4 yX4_become wsX4_become) := goodIn_app (goodIn_of _ (by decide +kernel)) ggX11_restore_X4_become
set_option maxRecDepth 20000 in
theorem ggX11_kind_X11_personAt : GoodIn wsX11_kind wsX11_personAt := goodIn_r _ [6, 7, 8, 9, 10, 11, 12, 13, 14, 37, 38, 39, 40, 41, 42, 43, 44, 45, 46, 47, 48, 49, 50, 51, 52, 53, 54, 55, 56, 57, 58, 59] (by decide +kernel) (by decide +kernel)
set_option maxRecDepth 20000 in
theorem gX11_kind_X11_personAt : GoodIn wsX11_kind (wsV RX11 135 RX11 yX11_personAt wsX11_personAt) := goodIn_app (goodIn_of _ (by decide +kernel)) ggX11_kind_X11_personAt
set_option maxRecDepth 20000 in
theorem ggX11_kind_X0_sort : GoodIn wsX11_kind wsX0_sort := goodIn_r _ [20] (by decide +kernel) (by decide +kernel)
set_option maxRecDepth 20000 in
theorem gX11_kind_X0_sort_u233X0 : GoodIn wsX11_kind (va_wsU RX11 233 RX0 "BorderBeds$Person" ⟨"BorderBeds$Person", "sort", "()I"⟩ yX0_sort wsX0_sort) := goodIn_app (goodIn_of _ (by decide +kernel)) ggX11_kind_X0_sort
set_option maxRecDepth 20000 in
theorem ggX11_kind_X1_sort : GoodIn wsX11_kind wsX1_sort := goodIn_r _ [24] (by decide +kernel) (by decide +kernel)
set_option maxRecDepth 20000 in
theorem gX11_kind_X1_sort_u233X1 : GoodIn wsX11_kind (va_wsU RX11 233 RX1 "BorderBeds$Person" ⟨"BorderBeds$Person", "sort", "()I"⟩ yX1_sort wsX1_sort) := goodIn_app (goodIn_of _ (by decide +kernel)) ggX11_kind_X1_sort
set_option maxRecDepth 20000 in
theorem ggX11_kind_X2_sort : GoodIn wsX11_kind wsX2_sort := goodIn_r _ [28] (by decide +kernel) (by decide +kernel)
set_option maxRecDepth 20000 in
theorem gX11_kind_X2_sort_u233X2 : GoodIn wsX11_kind (va_wsU RX11 233 RX2 "BorderBeds$Person" ⟨"BorderBeds$Person", "sort", "()I"⟩ yX2_sort wsX2_sort) := goodIn_app (goodIn_of _ (by decide +kernel)) ggX11_kind_X2_sort
set_option maxRecDepth 20000 in
theorem ggX11_kind_X5_sort : GoodIn wsX11_kind wsX5_sort := goodIn_r _ [32] (by decide +kernel) (by decide +kernel)
set_option maxRecDepth 20000 in
theorem gX11_kind_X5_sort_u233X5 : GoodIn wsX11_kind (va_wsU RX11 233 RX5 "BorderBeds$Person" ⟨"BorderBeds$Person", "sort", "()I"⟩ yX5_sort wsX5_sort) := goodIn_app (goodIn_of _ (by decide +kernel)) ggX11_kind_X5_sort
set_option maxRecDepth 20000 in
theorem ggX11_kind_X10_sort : GoodIn wsX11_kind wsX10_sort := goodIn_r _ [36] (by decide +kernel) (by decide +kernel)
set_option maxRecDepth 20000 in
theorem gX11_kind_X10_sort_u233X10 : GoodIn wsX11_kind (va_wsU RX11 233 RX10 "BorderBeds$Person" ⟨"BorderBeds$Person", "sort", "()I"⟩ yX10_sort wsX10_sort) := goodIn_app (goodIn_of _ (by decide +kernel)) ggX11_kind_X10_sort
set_option maxRecDepth 20000 in
theorem ggX11_as_X11_personAt : GoodIn wsX11_as wsX11_personAt := goodIn_r _ [7, 8, 9, 10, 11, 12, 13, 14, 15, 54, 55, 56, 57, 58, 59, 60, 61, 62, 63, 64, 65, 66, 67, 68, 69, 70, 71, 72, 73, 74, 75, 76] (by decide +kernel) (by decide +kernel)
set_option maxRecDepth 20000 in
theorem gX11_as_X11_personAt : GoodIn wsX11_as (wsV RX11 135 RX11 yX11_personAt wsX11_personAt) := goodIn_app (goodIn_of _ (by decide +kernel)) ggX11_as_X11_personAt
set_option maxRecDepth 20000 in
theorem ggX11_as_X11_isOne : GoodIn wsX11_as wsX11_isOne := goodIn_r _ [18, 19, 20, 21, 22, 23] (by decide +kernel) (by decide +kernel)
set_option maxRecDepth 20000 in
theorem gX11_as_X11_isOne : GoodIn wsX11_as (va_wsS RX11 237 yX11_isOne wsX11_isOne) := goodIn_app (goodIn_of _ (by decide +kernel)) ggX11_as_X11_isOne
set_option maxRecDepth 20000 in
theorem ggX11_as_X11_finding : GoodIn wsX11_as wsX11_finding := goodIn_r _ [27, 28, 29, 54, 55, 56, 57, 58, 59, 60, 61, 62, 63, 64, 65] (by decide +kernel) (by decide +kernel)
set_option maxRecDepth 20000 in
theorem gX11_as_X11_finding : GoodIn wsX11_as (wsV RX11 72 RX11 yX11_finding wsX11_finding) := goodIn_app (goodIn_of _ (by decide +kernel)) ggX11_as_X11_finding
set_option maxRecDepth 20000 in
theorem ggX11_as_X11_withoutFinding : GoodIn wsX11_as wsX11_withoutFinding := goodIn_r _ [33, 28, 54, 55, 56, 57, 58, 59, 60, 61, 62, 63, 64, 65] (by decide +kernel) (by decide +kernel)
set_option maxRecDepth 20000 in
theorem gX11_as_X11_withoutFinding : GoodIn wsX11_as (wsV RX11 80 RX11 yX11_withoutFinding wsX11_withoutFinding) := goodIn_app (goodIn_of _ (by decide +kernel)) ggX11_as_X11_withoutFinding
set_option maxRecDepth 20000 in
theorem ggX11_ask_X11_personAt : GoodIn wsX11_ask wsX11_personAt := goodIn_r _ [7, 8, 9, 10, 11, 12, 13, 14, 15, 105, 106, 107, 108, 109, 110, 111, 112, 113, 114, 115, 116, 117, 118, 119, 120, 121, 122, 123, 124, 125, 126, 127] (by decide +kernel) (by decide +kernel)
set_option maxRecDepth 20000 in
theorem gX11_ask_X11_personAt : GoodIn wsX11_ask (wsV RX11 135 RX11 yX11_personAt wsX11_personAt) := goodIn_app (goodIn_of _ (by decide +kernel)) ggX11_ask_X11_personAt
set_option maxRecDepth 20000 in
theorem ggX11_ask_X9_begin : GoodIn wsX11_ask wsX9_begin := goodIn_r _ [20, 21, 128, 129] (by decide +kernel) (by decide +kernel)
set_option maxRecDepth 20000 in
theorem gX11_ask_X9_begin : GoodIn wsX11_ask (wsV RX11 244 RX9 yX9_begin wsX9_begin) := goodIn_app (goodIn_of _ (by decide +kernel)) ggX11_ask_X9_begin
set_option maxRecDepth 20000 in
theorem ggX11_ask_X0_size : GoodIn wsX11_ask wsX0_size := goodIn_r _ [28, 29, 30, 31, 19, 32, 21, 33, 34, 23, 35, 36, 37, 38, 39, 40, 41, 42, 43, 27, 44, 45, 46, 47, 48, 49, 50, 51, 52, 53, 54, 55, 56, 57, 58, 59, 60, 61, 62, 63, 64, 65, 66, 67, 68, 128, 129, 130, 131, 132, 133, 134, 135, 136, 137, 138, 139, 140, 141, 142, 143, 144, 145, 146, 147, 148, 149] (by decide +kernel) (by decide +kernel)
set_option maxRecDepth 20000 in
theorem gX11_ask_X0_size_u246X0 : GoodIn wsX11_ask (va_wsO RX11 246 RX0 "BorderBeds$Person" ⟨"BorderBeds$Person", "size", "(LBorderBeds$Trace;)I"⟩ yX0_size wsX0_size) := goodIn_app (goodIn_of _ (by decide +kernel)) ggX11_ask_X0_size
set_option maxRecDepth 20000 in
theorem ggX11_ask_X1_size : GoodIn wsX11_ask wsX1_size := goodIn_r _ [72, 73, 30, 31, 19, 32, 21, 33, 74, 23, 75, 36, 37, 38, 39, 40, 128, 129, 130, 131, 132, 133, 134, 135, 136, 137, 138, 139, 140, 141, 142, 143, 144, 145, 146, 147, 148, 149] (by decide +kernel) (by decide +kernel)
set_option maxRecDepth 20000 in
theorem gX11_ask_X1_size_u246X1 : GoodIn wsX11_ask (va_wsO RX11 246 RX1 "BorderBeds$Person" ⟨"BorderBeds$Person", "size", "(LBorderBeds$Trace;)I"⟩ yX1_size wsX1_size) := goodIn_app (goodIn_of _ (by decide +kernel)) ggX11_ask_X1_size
set_option maxRecDepth 20000 in
theorem ggX11_ask_X2_size : GoodIn wsX11_ask wsX2_size := goodIn_r _ [78, 59, 30, 31, 19, 32, 21, 33, 79, 80, 61, 26, 27, 28, 29, 34, 23, 35, 36, 37, 38, 39, 40, 41, 42, 43, 44, 45, 46, 47, 48, 49, 50, 51, 52, 53, 54, 55, 56, 57, 58, 60, 62, 63, 64, 65, 66, 67, 68, 128, 129, 130, 131, 132, 133, 134, 135, 136, 137, 138, 139, 140, 141, 142, 143, 144, 145, 146, 147, 148, 149] (by decide +kernel) (by decide +kernel)
set_option maxRecDepth 20000 in
theorem gX11_ask_X2_size_u246X2 : GoodIn wsX11_ask (va_wsO RX11 246 RX2 "BorderBeds$Person" ⟨"BorderBeds$Person", "size", "(LBorderBeds$Trace;)I"⟩ yX2_size wsX2_size) := goodIn_app (goodIn_of _ (by decide +kernel)) ggX11_ask_X2_size
set_option maxRecDepth 20000 in
theorem ggX11_ask_X5_size : GoodIn wsX11_ask wsX5_size := goodIn_r _ [84, 85, 30, 31, 19, 32, 21, 33, 86, 87, 88, 70, 71, 72, 73, 74, 23, 75, 36, 37, 38, 39, 40, 128, 129, 130, 131, 132, 133, 134, 135, 136, 137, 138, 139, 140, 141, 142, 143, 144, 145, 146, 147, 148, 149] (by decide +kernel) (by decide +kernel)
set_option maxRecDepth 20000 in
theorem gX11_ask_X5_size_u246X5 : GoodIn wsX11_ask (va_wsO RX11 246 RX5 "BorderBeds$Person" ⟨"BorderBeds$Person", "size", "(LBorderBeds$Trace;)I"⟩ yX5_size wsX5_size) := goodIn_app (goodIn_of _ (by decide +kernel)) ggX11_ask_X5_size
set_option maxRecDepth 20000 in
theorem gX11_ask_X0_size_u246X10 : GoodIn wsX11_ask (va_wsO RX11 246 RX10 "BorderBeds$Person" ⟨"BorderBeds$Person", "size", "(LBorderBeds$Trace;)I"⟩ yX0_size wsX0_size) := goodIn_app (goodIn_of _ (by decide +kernel)) ggX11_ask_X0_size
set_option maxRecDepth 20000 in
theorem ggX11_ask_X0_mark : GoodIn wsX11_ask wsX0_mark := goodIn_r _ [44, 45, 46, 29, 30, 31, 19, 32, 21, 33, 47, 48, 35, 49, 37, 50, 51, 40, 130, 131, 132, 133, 134, 135, 136, 137, 138, 139, 140, 141, 142, 143, 144, 145, 146, 147, 148, 149, 128, 129] (by decide +kernel) (by decide +kernel)
set_option maxRecDepth 20000 in
theorem gX11_ask_X0_mark_u249X0 : GoodIn wsX11_ask (va_wsO RX11 249 RX0 "BorderBeds$Person" ⟨"BorderBeds$Person", "mark", "(LBorderBeds$Trace;)I"⟩ yX0_mark wsX0_mark) := goodIn_app (goodIn_of _ (by decide +kernel)) ggX11_ask_X0_mark
set_option maxRecDepth 20000 in
theorem ggX11_ask_X1_mark : GoodIn wsX11_ask wsX1_mark := goodIn_r _ [95, 73, 30, 31, 19, 32, 21, 33, 96, 48, 75, 49, 37, 50, 51, 40, 97, 70, 98, 71, 72, 74, 23, 36, 38, 39, 99, 87, 100, 101, 82, 83, 84, 85, 86, 88, 128, 129, 130, 131, 132, 133, 134, 135, 136, 137, 138, 139, 140, 141, 142, 143, 144, 145, 146, 147, 148, 149] (by decide +kernel) (by decide +kernel)
set_option maxRecDepth 20000 in
theorem gX11_ask_X1_mark_u249X1 : GoodIn wsX11_ask (va_wsO RX11 249 RX1 "BorderBeds$Person" ⟨"BorderBeds$Person", "mark", "(LBorderBeds$Trace;)I"⟩ yX1_mark wsX1_mark) := goodIn_app (goodIn_of _ (by decide +kernel)) ggX11_ask_X1_mark
set_option maxRecDepth 20000 in
theorem ggX11_ask_X2_mark : GoodIn wsX11_ask wsX2_mark := goodIn_r _ [58, 59, 30, 31, 19, 32, 21, 33, 60, 53, 61, 42, 27, 44, 45, 46, 29, 47, 48, 35, 49, 37, 50, 51, 40, 128, 129, 130, 131, 132, 133, 134, 135, 136, 137, 138, 139, 140, 141, 142, 143, 144, 145, 146, 147, 148, 149] (by decide +kernel) (by decide +kernel)
set_option maxRecDepth 20000 in
theorem gX11_ask_X2_mark_u249X2 : GoodIn wsX11_ask (va_wsO RX11 249 RX2 "BorderBeds$Person" ⟨"BorderBeds$Person", "mark", "(LBorderBeds$Trace;)I"⟩ yX2_mark wsX2_mark) := goodIn_app (goodIn_of _ (by decide +kernel)) ggX11_ask_X2_mark
set_option maxRecDepth 20000 in
theorem gX11_ask_X1_mark_u249X5 : GoodIn wsX11_ask (va_wsO RX11 249 RX5 "BorderBeds$Person" ⟨"BorderBeds$Person", "mark", "(LBorderBeds$Trace;)I"⟩ yX1_mark wsX1_mark) := goodIn_app (goodIn_of _ (by decide +kernel)) ggX11_ask_X1_mark
set_option maxRecDepth 20000 in
theorem ggX11_ask_X10_mark : GoodIn wsX11_ask wsX10_mark := goodIn_r _ [65, 66, 30, 31, 19, 32, 21, 33, 67, 53, 68, 42, 27, 44, 45, 46, 29, 47, 48, 35, 49, 37, 50, 51, 40, 128, 129, 130, 131, 132, 133, 134, 135, 136, 137, 138, 139, 140, 141, 142, 143, 144, 145, 146, 147, 148, 149] (by decide +kernel) (by decide +kernel)
set_option maxRecDepth 20000 in
theorem gX11_ask_X10_mark_u249X10 : GoodIn wsX11_ask (va_wsO RX11 249 RX10 "BorderBeds$Person" ⟨"BorderBeds$Person", "mark", "(LBorderBeds$Trace;)I"⟩ yX10_mark wsX10_mark) := goodIn_app (goodIn_of _ (by decide +kernel)) ggX11_ask_X10_mark
set_option maxRecDepth 20000 in
theorem ggX11_count_X11_rowsThere : GoodIn wsX11_count wsX11_rowsThere := goodIn_r _ [14, 15, 16, 17, 18, 19, 20, 21, 28, 29, 30, 31, 32, 33, 34, 35, 36, 37, 38, 39, 65, 66, 67] (by decide +kernel) (by decide +kernel)
set_option maxRecDepth 20000 in
theorem gX11_count_X11_rowsThere : GoodIn wsX11_count (wsV RX11 256 RX11 yX11_rowsThere wsX11_rowsThere) := goodIn_app (goodIn_of _ (by decide +kernel)) ggX11_count_X11_rowsThere
set_option maxRecDepth 20000 in
theorem ggX11_count_X3_cellsGuarded : GoodIn wsX11_count wsX3_cellsGuarded := goodIn_r _ [26, 27, 40, 41, 42, 43, 44, 45, 46, 47, 48, 49, 50] (by decide +kernel) (by decide +kernel)
set_option maxRecDepth 20000 in
theorem gX11_count_X3_cellsGuarded : GoodIn wsX11_count (wsV RX11 262 RX3 yX3_cellsGuarded wsX3_cellsGuarded) := goodIn_app (goodIn_of _ (by decide +kernel)) ggX11_count_X3_cellsGuarded
set_option maxRecDepth 20000 in
theorem ggX11_rowsThere_X7_isMissing : GoodIn wsX11_rowsThere wsX7_isMissing := goodIn_r _ [6, 7, 20, 21, 22] (by decide +kernel) (by decide +kernel)
set_option maxRecDepth 20000 in
theorem gX11_rowsThere_X7_isMissing : GoodIn wsX11_rowsThere (wsV RX11 83 RX7 yX7_isMissing wsX7_isMissing) := goodIn_app (goodIn_of _ (by decide +kernel)) ggX11_rowsThere_X7_isMissing
set_option maxRecDepth 20000 in
theorem ggX12_isRow_X12_in : GoodIn wsX12_isRow wsX12_in := goodIn_r _ [5] (by decide +kernel) (by decide +kernel)
set_option maxRecDepth 20000 in
theorem gX12_isRow_X12_in : GoodIn wsX12_isRow (va_wsS RX12 54 yX12_in wsX12_in) := goodIn_app (goodIn_of _ (by decide +kernel)) ggX12_isRow_X12_in
set_option maxRecDepth 20000 in
theorem ggX12_row_X12_isRow : GoodIn wsX12_row wsX12_isRow := goodIn_r _ [9, 10, 11, 12, 8, 13] (by decide +kernel) (by decide +kernel)
set_option maxRecDepth 20000 in
theorem gX12_row_X12_isRow : GoodIn wsX12_row (va_wsS RX12 58 yX12_isRow wsX12_isRow) := goodIn_app (goodIn_of _ (by decide +kernel)) ggX12_row_X12_isRow
set_option maxRecDepth 20000 in
theorem ggX12_row_X12_in : GoodIn wsX12_row wsX12_in := goodIn_r _ [13] (by decide +kernel) (by decide +kernel)
set_option maxRecDepth 20000 in
theorem gX12_row_X12_in : GoodIn wsX12_row (va_wsS RX12 54 yX12_in wsX12_in) := goodIn_app (goodIn_of _ (by decide +kernel)) ggX12_row_X12_in
set_option maxRecDepth 20000 in
theorem ggX12_row_X12_found : GoodIn wsX12_row wsX12_found := goodIn_r _ [17, 18, 19, 24, 25, 26, 27, 28, 29, 30, 31, 32, 33, 34, 35, 36, 37, 38, 39, 40, 41, 42, 43, 44, 45, 46, 47, 48, 49] (by decide +kernel) (by decide +kernel)
set_option maxRecDepth 20000 in
theorem gX12_row_X12_found : GoodIn wsX12_row (wsV RX12 65 RX12 yX12_found wsX12_found) := goodIn_app (goodIn_of _ (by decide +kernel)) ggX12_row_X12_found
set_option maxRecDepth 20000 in
theorem ggX12_row_X12_well : GoodIn wsX12_row wsX12_well := goodIn_r _ [23, 18, 24, 25, 26, 27, 28, 29, 30, 31, 32, 33, 34, 35, 36, 37, 38, 39, 40, 41, 42, 43, 44, 45, 46, 47, 48, 49] (by decide +kernel) (by decide +kernel)
set_option maxRecDepth 20000 in
theorem gX12_row_X12_well : GoodIn wsX12_row (wsV RX12 69 RX12 yX12_well wsX12_well) := goodIn_app (goodIn_of _ (by decide +kernel)) ggX12_row_X12_well
set_option maxRecDepth 20000 in
theorem ggX12_set_X12_isRow : GoodIn wsX12_set wsX12_isRow := goodIn_r _ [8, 9, 10, 11, 7, 12] (by decide +kernel) (by decide +kernel)
set_option maxRecDepth 20000 in
theorem gX12_set_X12_isRow : GoodIn wsX12_set (va_wsS RX12 58 yX12_isRow wsX12_isRow) := goodIn_app (goodIn_of _ (by decide +kernel)) ggX12_set_X12_isRow
set_option maxRecDepth 20000 in
theorem ggX12_set_X12_found : GoodIn wsX12_set wsX12_found := goodIn_r _ [16, 17, 18, 23, 24, 25, 26, 27, 28, 29, 30, 31, 32, 33, 34, 35, 36, 37, 38, 39, 40, 41, 42, 43, 44, 45, 46, 47, 48] (by decide +kernel) (by decide +kernel)
set_option maxRecDepth 20000 in
theorem gX12_set_X12_found : GoodIn wsX12_set (wsV RX12 65 RX12 yX12_found wsX12_found) := goodIn_app (goodIn_of _ (by decide +kernel)) ggX12_set_X12_found
set_option maxRecDepth 20000 in
theorem ggX12_set_X12_in : GoodIn wsX12_set wsX12_in := goodIn_r _ [12] (by decide +kernel) (by decide +kernel)
set_option maxRecDepth 20000 in
theorem gX12_set_X12_in : GoodIn wsX12_set (va_wsS RX12 54 yX12_in wsX12_in) := goodIn_app (goodIn_of _ (by decide +kernel)) ggX12_set_X12_in
set_option maxRecDepth 20000 in
theorem ggX12_set_X12_well : GoodIn wsX12_set wsX12_well := goodIn_r _ [22, 17, 23, 24, 25, 26, 27, 28, 29, 30, 31, 32, 33, 34, 35, 36, 37, 38, 39, 40, 41, 42, 43, 44, 45, 46, 47, 48] (by decide +kernel) (by decide +kernel)
set_option maxRecDepth 20000 in
theorem gX12_set_X12_well : GoodIn wsX12_set (wsV RX12 69 RX12 yX12_well wsX12_well) := goodIn_app (goodIn_of _ (by decide +kernel)) ggX12_set_X12_well
set_option maxRecDepth 20000 in
theorem ggX12_copy_X12_isRow : GoodIn wsX12_copy wsX12_isRow := goodIn_r _ [8, 9, 10, 11, 7, 12] (by decide +kernel) (by decide +kernel)
set_option maxRecDepth 20000 in
theorem gX12_copy_X12_isRow : GoodIn wsX12_copy (va_wsS RX12 58 yX12_isRow wsX12_isRow) := goodIn_app (goodIn_of _ (by decide +kernel)) ggX12_copy_X12_isRow
set_option maxRecDepth 20000 in
theorem ggX12_copy_X12_found : GoodIn wsX12_copy wsX12_found := goodIn_r _ [16, 17, 18, 23, 24, 25, 26, 27, 28, 29, 30, 31, 32, 33, 34, 35, 36, 37, 38, 39, 40, 41, 42, 43, 44, 45, 46, 47, 48] (by decide +kernel) (by decide +kernel)
set_option maxRecDepth 20000 in
theorem gX12_copy_X12_found : GoodIn wsX12_copy (wsV RX12 65 RX12 yX12_found wsX12_found) := goodIn_app (goodIn_of _ (by decide +kernel)) ggX12_copy_X12_found
set_option maxRecDepth 20000 in
theorem ggX12_copy_X12_well : GoodIn wsX12_copy wsX12_well := goodIn_r _ [22, 17, 23, 24, 25, 26, 27, 28, 29, 30, 31, 32, 33, 34, 35, 36, 37, 38, 39, 40, 41, 42, 43, 44, 45, 46, 47, 48] (by decide +kernel) (by decide +kernel)
set_option maxRecDepth 20000 in
theorem gX12_copy_X12_well : GoodIn wsX12_copy (wsV RX12 69 RX12 yX12_well wsX12_well) := goodIn_app (goodIn_of _ (by decide +kernel)) ggX12_copy_X12_well
set_option maxRecDepth 20000 in
theorem ggX12_drop_X12_isRow : GoodIn wsX12_drop wsX12_isRow := goodIn_r _ [6, 7, 8, 9, 5, 10] (by decide +kernel) (by decide +kernel)
set_option maxRecDepth 20000 in
theorem gX12_drop_X12_isRow : GoodIn wsX12_drop (va_wsS RX12 58 yX12_isRow wsX12_isRow) := goodIn_app (goodIn_of _ (by decide +kernel)) ggX12_drop_X12_isRow
set_option maxRecDepth 20000 in
theorem ggX12_drop_X12_found : GoodIn wsX12_drop wsX12_found := goodIn_r _ [14, 15, 16, 21, 22, 23, 24, 25, 26, 27, 28, 29, 30, 31, 32, 33, 34, 35, 36, 37, 38, 39, 40, 41, 42, 43, 44, 45, 46] (by decide +kernel) (by decide +kernel)
set_option maxRecDepth 20000 in
theorem gX12_drop_X12_found : GoodIn wsX12_drop (wsV RX12 65 RX12 yX12_found wsX12_found) := goodIn_app (goodIn_of _ (by decide +kernel)) ggX12_drop_X12_found
set_option maxRecDepth 20000 in
theorem ggX12_drop_X12_well : GoodIn wsX12_drop wsX12_well := goodIn_r _ [20, 15, 21, 22, 23, 24, 25, 26, 27, 28, 29, 30, 31, 32, 33, 34, 35, 36, 37, 38, 39, 40, 41, 42, 43, 44, 45, 46] (by decide +kernel) (by decide +kernel)
set_option maxRecDepth 20000 in
theorem gX12_drop_X12_well : GoodIn wsX12_drop (wsV RX12 69 RX12 yX12_well wsX12_well) := goodIn_app (goodIn_of _ (by decide +kernel)) ggX12_drop_X12_well
set_option maxRecDepth 20000 in
theorem ggX12_feed_X12_in : GoodIn wsX12_feed wsX12_in := goodIn_r _ [10] (by decide +kernel) (by decide +kernel)
set_option maxRecDepth 20000 in
theorem gX12_feed_X12_in : GoodIn wsX12_feed (va_wsS RX12 54 yX12_in wsX12_in) := goodIn_app (goodIn_of _ (by decide +kernel)) ggX12_feed_X12_in
set_option maxRecDepth 20000 in
theorem ggX12_sort_X12_in : GoodIn wsX12_sort wsX12_in := goodIn_r _ [8] (by decide +kernel) (by decide +kernel)
set_option maxRecDepth 20000 in
theorem gX12_sort_X12_in : GoodIn wsX12_sort (va_wsS RX12 54 yX12_in wsX12_in) := goodIn_app (goodIn_of _ (by decide +kernel)) ggX12_sort_X12_in
set_option maxRecDepth 20000 in
theorem ggX12_next_X12_sort : GoodIn wsX12_next wsX12_sort := goodIn_r _ [15, 16, 17, 11, 18, 19, 20, 14, 21] (by decide +kernel) (by decide +kernel)
set_option maxRecDepth 20000 in
theorem gX12_next_X12_sort : GoodIn wsX12_next (va_wsS RX12 97 yX12_sort wsX12_sort) := goodIn_app (goodIn_of _ (by decide +kernel)) ggX12_next_X12_sort
set_option maxRecDepth 20000 in
theorem ggX12_number_X12_next : GoodIn wsX12_number wsX12_next := goodIn_r _ [8, 9, 10, 11, 12, 1, 3, 13, 14, 15, 16, 17, 18, 19, 7, 20, 21, 22, 23, 24, 25, 26, 27, 28, 29, 30, 31, 32, 33, 34, 35, 36, 37, 38, 39, 40, 41, 42, 43, 44, 45, 46, 47, 48, 49, 50, 51, 52] (by decide +kernel) (by decide +kernel)
set_option maxRecDepth 20000 in
theorem gX12_number_X12_next : GoodIn wsX12_number (wsV RX12 115 RX12 yX12_next wsX12_next) := goodIn_app (goodIn_of _ (by decide +kernel)) ggX12_number_X12_next
set_option maxRecDepth 20000 in
theorem ggX12_number_X12_in : GoodIn wsX12_number wsX12_in := goodIn_r _ [26] (by decide +kernel) (by decide +kernel)
set_option maxRecDepth 20000 in
theorem gX12_number_X12_in : GoodIn wsX12_number (va_wsS RX12 54 yX12_in wsX12_in) := goodIn_app (goodIn_of _ (by decide +kernel)) ggX12_number_X12_in
set_option maxRecDepth 20000 in
theorem ggX12_ends_X12_next : GoodIn wsX12_ends wsX12_next := goodIn_r _ [6, 7, 8, 9, 10, 1, 11, 12, 13, 14, 15, 16, 17, 18, 5, 19, 20, 21, 22, 23, 24, 25, 31, 32, 33, 34, 35, 36, 37, 38, 39, 40, 41, 42, 43, 44, 45, 46, 47, 48, 49, 50, 51, 52, 53, 54, 55, 56] (by decide +kernel) (by decide +kernel)
set_option maxRecDepth 20000 in
theorem gX12_ends_X12_next : GoodIn wsX12_ends (wsV RX12 115 RX12 yX12_next wsX12_next) := goodIn_app (goodIn_of _ (by decide +kernel)) ggX12_ends_X12_next
set_option maxRecDepth 20000 in
theorem ggX12_ends_X12_mustBe : GoodIn wsX12_ends wsX12_mustBe := goodIn_r _ [29, 30, 31, 32, 33, 34, 35, 36, 37, 38, 39, 40, 41, 42, 43, 44, 45, 46, 47, 48, 49, 50, 51, 52, 53, 54, 55, 56] (by decide +kernel) (by decide +kernel)
set_option maxRecDepth 20000 in
theorem gX12_ends_X12_mustBe : GoodIn wsX12_ends (wsV RX12 121 RX12 yX12_mustBe wsX12_mustBe) := goodIn_app (goodIn_of _ (by decide +kernel)) ggX12_ends_X12_mustBe
set_option maxRecDepth 20000 in
theorem ggX12_takesCell_X12_number : GoodIn wsX12_takesCell wsX12_number := goodIn_r _ [7, 8, 9, 1, 10, 11, 12, 6, 13, 14, 15, 16, 17, 18, 19, 20, 21, 22, 23, 24, 25, 26, 27, 28, 29, 30, 31, 32, 33, 34, 35, 36, 37, 38, 39, 40, 41, 42, 43, 44, 45, 46, 47, 48, 49, 50, 51, 52, 53, 54, 55, 56, 57] (by decide +kernel) (by decide +kernel)
set_option maxRecDepth 20000 in
theorem gX12_takesCell_X12_number : GoodIn wsX12_takesCell (wsV RX12 125 RX12 yX12_number wsX12_number) := goodIn_app (goodIn_of _ (by decide +kernel)) ggX12_takesCell_X12_number
set_option maxRecDepth 20000 in
theorem ggX12_readsVillage_X12_hasRoom : GoodIn wsX12_readsVillage wsX12_hasRoom := goodIn_r _ [8, 9, 49, 50, 51, 52, 53, 54, 55, 56, 57, 58, 59, 60, 61, 62, 63, 64, 65, 66, 67, 68, 69, 70, 71, 72, 73, 74] (by decide +kernel) (by decide +kernel)
set_option maxRecDepth 20000 in
theorem gX12_readsVillage_X12_hasRoom : GoodIn wsX12_readsVillage (wsV RX12 132 RX12 yX12_hasRoom wsX12_hasRoom) := goodIn_app (goodIn_of _ (by decide +kernel)) ggX12_readsVillage_X12_hasRoom
set_option maxRecDepth 20000 in
theorem ggX12_readsVillage_X12_takesCell : GoodIn wsX12_readsVillage wsX12_takesCell := goodIn_r _ [13, 3, 2, 14, 15, 16, 7, 17, 18, 9, 19, 20, 21, 22, 23, 24, 25, 26, 27, 28, 29, 30, 31, 32, 33, 34, 35, 36, 37, 38, 39, 40, 49, 50, 51, 52, 53, 54, 55, 56, 57, 58, 59, 60, 61, 62, 63, 64, 65, 66, 67, 68, 69, 70, 71, 72, 73, 74] (by decide +kernel) (by decide +kernel)
set_option maxRecDepth 20000 in
theorem gX12_readsVillage_X12_takesCell : GoodIn wsX12_readsVillage (wsV RX12 135 RX12 yX12_takesCell wsX12_takesCell) := goodIn_app (goodIn_of _ (by decide +kernel)) ggX12_readsVillage_X12_takesCell
set_option maxRecDepth 20000 in
theorem ggX12_readsVillage_X12_number : GoodIn wsX12_readsVillage wsX12_number := goodIn_r _ [17, 18, 9, 3, 19, 20, 21, 7, 22, 23, 24, 25, 26, 27, 28, 29, 30, 31, 32, 33, 34, 35, 36, 37, 38, 39, 40, 49, 50, 51, 52, 53, 54, 55, 56, 57, 58, 59, 60, 61, 62, 63, 64, 65, 66, 67, 68, 69, 70, 71, 72, 73, 74] (by decide +kernel) (by decide +kernel)
set_option maxRecDepth 20000 in
theorem gX12_readsVillage_X12_number : GoodIn wsX12_readsVillage (wsV RX12 125 RX12 yX12_number wsX12_number) := goodIn_app (goodIn_of _ (by decide +kernel)) ggX12_readsVillage_X12_number
set_option maxRecDepth 20000 in
theorem ggX12_readsVillage_X12_ends : GoodIn wsX12_readsVillage wsX12_ends := goodIn_r _ [44, 18, 19, 20, 21, 7, 22, 23, 24, 25, 26, 3, 27, 28, 29, 30, 31, 32, 33, 34, 35, 36, 37, 38, 39, 40, 45, 46, 47, 48, 9, 49, 50, 51, 52, 53, 54, 55, 56, 57, 58, 59, 60, 61, 62, 63, 64, 65, 66, 67, 68, 69, 70, 71, 72, 73, 74] (by decide +kernel) (by decide +kernel)
set_option maxRecDepth 20000 in
theorem gX12_readsVillage_X12_ends : GoodIn wsX12_readsVillage (wsV RX12 139 RX12 yX12_ends wsX12_ends) := goodIn_app (goodIn_of _ (by decide +kernel)) ggX12_readsVillage_X12_ends
set_option maxRecDepth 20000 in
theorem ggX12_readsGuard_X12_hasRoom : GoodIn wsX12_readsGuard wsX12_hasRoom := goodIn_r _ [8, 9, 50, 51, 52, 53, 54, 55, 56, 57, 58, 59, 60, 61, 62, 63, 64, 65, 66, 67, 68, 69, 70, 71, 72, 73, 74, 75] (by decide +kernel) (by decide +kernel)
set_option maxRecDepth 20000 in
theorem gX12_readsGuard_X12_hasRoom : GoodIn wsX12_readsGuard (wsV RX12 132 RX12 yX12_hasRoom wsX12_hasRoom) := goodIn_app (goodIn_of _ (by decide +kernel)) ggX12_readsGuard_X12_hasRoom
set_option maxRecDepth 20000 in
theorem ggX12_readsGuard_X12_takesCell : GoodIn wsX12_readsGuard wsX12_takesCell := goodIn_r _ [13, 14, 3, 15, 16, 17, 7, 18, 19, 9, 20, 21, 22, 23, 24, 25, 26, 27, 28, 29, 30, 31, 32, 33, 34, 35, 36, 37, 38, 39, 40, 41, 50, 51, 52, 53, 54, 55, 56, 57, 58, 59, 60, 61, 62, 63, 64, 65, 66, 67, 68, 69, 70, 71, 72, 73, 74, 75] (by decide +kernel) (by decide +kernel)
set_option maxRecDepth 20000 in
theorem gX12_readsGuard_X12_takesCell : GoodIn wsX12_readsGuard (wsV RX12 135 RX12 yX12_takesCell wsX12_takesCell) := goodIn_app (goodIn_of _ (by decide +kernel)) ggX12_readsGuard_X12_takesCell
set_option maxRecDepth 20000 in
theorem ggX12_readsGuard_X12_ends : GoodIn wsX12_readsGuard wsX12_ends := goodIn_r _ [45, 19, 20, 21, 22, 7, 23, 24, 25, 26, 27, 14, 28, 29, 30, 31, 32, 33, 34, 35, 36, 37, 38, 39, 40, 41, 46, 47, 48, 49, 9, 50, 51, 52, 53, 54, 55, 56, 57, 58, 59, 60, 61, 62, 63, 64, 65, 66, 67, 68, 69, 70, 71, 72, 73, 74, 75] (by decide +kernel) (by decide +kernel)
set_option maxRecDepth 20000 in
theorem gX12_readsGuard_X12_ends : GoodIn wsX12_readsGuard (wsV RX12 139 RX12 yX12_ends wsX12_ends) := goodIn_app (goodIn_of _ (by decide +kernel)) ggX12_readsGuard_X12_ends
set_option maxRecDepth 20000 in
theorem ggX12_kindHere_X12_next : GoodIn wsX12_kindHere wsX12_next := goodIn_r _ [12, 13, 14, 15, 16, 1, 2, 17, 18, 19, 20, 21, 22, 23, 11, 24, 25, 26, 27, 28, 29, 30, 31, 32, 33, 34, 35, 36, 37, 38, 39, 40, 41, 42, 43, 44, 45, 46, 47, 48, 49, 50, 51, 52, 53, 54, 55, 56] (by decide +kernel) (by decide +kernel)
set_option maxRecDepth 20000 in
theorem gX12_kindHere_X12_next : GoodIn wsX12_kindHere (wsV RX12 115 RX12 yX12_next wsX12_next) := goodIn_app (goodIn_of _ (by decide +kernel)) ggX12_kindHere_X12_next
set_option maxRecDepth 20000 in
theorem ggX12_readsPerson_X12_hasRoom : GoodIn wsX12_readsPerson wsX12_hasRoom := goodIn_r _ [8, 9, 58, 59, 60, 61, 62, 63, 64, 65, 66, 67, 68, 69, 70, 71, 72, 73, 74, 75, 76, 77, 78, 79, 80, 81, 82, 83] (by decide +kernel) (by decide +kernel)
set_option maxRecDepth 20000 in
theorem gX12_readsPerson_X12_hasRoom : GoodIn wsX12_readsPerson (wsV RX12 132 RX12 yX12_hasRoom wsX12_hasRoom) := goodIn_app (goodIn_of _ (by decide +kernel)) ggX12_readsPerson_X12_hasRoom
set_option maxRecDepth 20000 in
theorem ggX12_readsPerson_X12_kindHere : GoodIn wsX12_readsPerson wsX12_kindHere := goodIn_r _ [13, 14, 2, 15, 16, 17, 18, 19, 20, 21, 22, 7, 23, 24, 25, 26, 27, 28, 29, 30, 31, 32, 33, 34, 35, 36, 37, 38, 39, 40, 41, 58, 59, 60, 61, 62, 63, 64, 65, 66, 67, 68, 69, 70, 71, 72, 73, 74, 75, 76, 77, 78, 79, 80, 81, 82, 83] (by decide +kernel) (by decide +kernel)
set_option maxRecDepth 20000 in
theorem gX12_readsPerson_X12_kindHere : GoodIn wsX12_readsPerson (wsV RX12 155 RX12 yX12_kindHere wsX12_kindHere) := goodIn_app (goodIn_of _ (by decide +kernel)) ggX12_readsPerson_X12_kindHere
set_option maxRecDepth 20000 in
theorem ggX12_readsPerson_X12_mustBe : GoodIn wsX12_readsPerson wsX12_mustBe := goodIn_r _ [45, 9, 58, 59, 60, 61, 62, 63, 64, 65, 66, 67, 68, 69, 70, 71, 72, 73, 74, 75, 76, 77, 78, 79, 80, 81, 82, 83] (by decide +kernel) (by decide +kernel)
set_option maxRecDepth 20000 in
theorem gX12_readsPerson_X12_mustBe : GoodIn wsX12_readsPerson (wsV RX12 121 RX12 yX12_mustBe wsX12_mustBe) := goodIn_app (goodIn_of _ (by decide +kernel)) ggX12_readsPerson_X12_mustBe
set_option maxRecDepth 20000 in
theorem ggX12_readsPerson_X12_number : GoodIn wsX12_readsPerson wsX12_number := goodIn_r _ [49, 14, 9, 2, 20, 21, 22, 7, 23, 24, 25, 26, 27, 28, 29, 30, 31, 32, 33, 34, 35, 36, 37, 38, 39, 40, 41, 58, 59, 60, 61, 62, 63, 64, 65, 66, 67, 68, 69, 70, 71, 72, 73, 74, 75, 76, 77, 78, 79, 80, 81, 82, 83] (by decide +kernel) (by decide +kernel)
set_option maxRecDepth 20000 in
theorem gX12_readsPerson_X12_number : GoodIn wsX12_readsPerson (wsV RX12 125 RX12 yX12_number wsX12_number) := goodIn_app (goodIn_of _ (by decide +kernel)) ggX12_readsPerson_X12_number
set_option maxRecDepth 20000 in
theorem ggX12_readsPerson_X12_takesCell : GoodIn wsX12_readsPerson wsX12_takesCell := goodIn_r _ [53, 2, 3, 46, 47, 48, 7, 49, 14, 9, 20, 21, 22, 23, 24, 25, 26, 27, 28, 29, 30, 31, 32, 33, 34, 35, 36, 37, 38, 39, 40, 41, 58, 59, 60, 61, 62, 63, 64, 65, 66, 67, 68, 69, 70, 71, 72, 73, 74, 75, 76, 77, 78, 79, 80, 81, 82, 83] (by decide +kernel) (by decide +kernel)
set_option maxRecDepth 20000 in
theorem gX12_readsPerson_X12_takesCell : GoodIn wsX12_readsPerson (wsV RX12 135 RX12 yX12_takesCell wsX12_takesCell) := goodIn_app (goodIn_of _ (by decide +kernel)) ggX12_readsPerson_X12_takesCell
set_option maxRecDepth 20000 in
theorem ggX12_readsPerson_X12_ends : GoodIn wsX12_readsPerson wsX12_ends := goodIn_r _ [57, 14, 20, 21, 22, 7, 23, 24, 25, 26, 27, 2, 28, 29, 30, 31, 32, 33, 34, 35, 36, 37, 38, 39, 40, 41, 42, 43, 44, 45, 9, 58, 59, 60, 61, 62, 63, 64, 65, 66, 67, 68, 69, 70, 71, 72, 73, 74, 75, 76, 77, 78, 79, 80, 81, 82, 83] (by decide +kernel) (by decide +kernel)
set_option maxRecDepth 20000 in
theorem gX12_readsPerson_X12_ends : GoodIn wsX12_readsPerson (wsV RX12 139 RX12 yX12_ends wsX12_ends) := goodIn_app (goodIn_of _ (by decide +kernel)) ggX12_readsPerson_X12_ends
set_option maxRecDepth 20000 in
theorem ggX12_posts_X12_next : GoodIn wsX12_posts wsX12_next := goodIn_r _ [9, 10, 11, 12, 13, 1, 2, 14, 15, 16, 17, 18, 19, 20, 8, 21, 22, 23, 24, 25, 26, 27, 41, 42, 43, 44, 45, 46, 47, 48, 49, 50, 51, 52, 53, 54, 55, 56, 57, 58, 59, 60, 61, 62, 63, 64, 65, 66] (by decide +kernel) (by decide +kernel)
set_option maxRecDepth 20000 in
theorem gX12_posts_X12_next : GoodIn wsX12_posts (wsV RX12 115 RX12 yX12_next wsX12_next) := goodIn_app (goodIn_of _ (by decide +kernel)) ggX12_posts_X12_next
set_option maxRecDepth 20000 in
theorem ggX12_posts_X12_mustBe : GoodIn wsX12_posts wsX12_mustBe := goodIn_r _ [31, 32, 41, 42, 43, 44, 45, 46, 47, 48, 49, 50, 51, 52, 53, 54, 55, 56, 57, 58, 59, 60, 61, 62, 63, 64, 65, 66] (by decide +kernel) (by decide +kernel)
set_option maxRecDepth 20000 in
theorem gX12_posts_X12_mustBe : GoodIn wsX12_posts (wsV RX12 121 RX12 yX12_mustBe wsX12_mustBe) := goodIn_app (goodIn_of _ (by decide +kernel)) ggX12_posts_X12_mustBe
set_option maxRecDepth 20000 in
theorem ggX12_posts_X12_number : GoodIn wsX12_posts wsX12_number := goodIn_r _ [36, 1, 32, 2, 5, 6, 7, 8, 9, 10, 11, 12, 13, 14, 15, 16, 17, 18, 19, 20, 21, 22, 23, 24, 25, 26, 27, 41, 42, 43, 44, 45, 46, 47, 48, 49, 50, 51, 52, 53, 54, 55, 56, 57, 58, 59, 60, 61, 62, 63, 64, 65, 66] (by decide +kernel) (by decide +kernel)
set_option maxRecDepth 20000 in
theorem gX12_posts_X12_number : GoodIn wsX12_posts (wsV RX12 125 RX12 yX12_number wsX12_number) := goodIn_app (goodIn_of _ (by decide +kernel)) ggX12_posts_X12_number
set_option maxRecDepth 20000 in
theorem ggX12_posts_X12_ends : GoodIn wsX12_posts wsX12_ends := goodIn_r _ [40, 1, 5, 6, 7, 8, 9, 10, 11, 12, 13, 2, 14, 15, 16, 17, 18, 19, 20, 21, 22, 23, 24, 25, 26, 27, 28, 29, 30, 31, 32, 41, 42, 43, 44, 45, 46, 47, 48, 49, 50, 51, 52, 53, 54, 55, 56, 57, 58, 59, 60, 61, 62, 63, 64, 65, 66] (by decide +kernel) (by decide +kernel)
set_option maxRecDepth 20000 in
theorem gX12_posts_X12_ends : GoodIn wsX12_posts (wsV RX12 139 RX12 yX12_ends wsX12_ends) := goodIn_app (goodIn_of _ (by decide +kernel)) ggX12_posts_X12_ends
set_option maxRecDepth 20000 in
theorem ggX12_reads_X12_posts : GoodIn wsX12_reads wsX12_posts := goodIn_r _ [9, 4, 10, 11, 1, 12, 13, 14, 8, 15, 3, 16, 17, 18, 19, 20, 21, 22, 23, 24, 25, 26, 27, 28, 29, 30, 31, 32, 33, 34, 35, 36, 37, 38, 39, 40, 41, 42, 43, 44, 45, 83, 84, 85, 86, 87, 88, 89, 90, 91, 92, 93, 94, 95, 96, 97, 98, 99, 100, 101, 102, 103, 104, 105, 106, 107, 108] (by decide +kernel) (by decide +kernel)
set_option maxRecDepth 20000 in
theorem gX12_reads_X12_posts : GoodIn wsX12_reads (wsV RX12 167 RX12 yX12_posts wsX12_posts) := goodIn_app (goodIn_of _ (by decide +kernel)) ggX12_reads_X12_posts
set_option maxRecDepth 20000 in
theorem ggX12_reads_X12_next : GoodIn wsX12_reads wsX12_next := goodIn_r _ [15, 3, 16, 17, 18, 4, 10, 19, 20, 21, 22, 23, 24, 25, 8, 26, 27, 28, 29, 30, 31, 32, 83, 84, 85, 86, 87, 88, 89, 90, 91, 92, 93, 94, 95, 96, 97, 98, 99, 100, 101, 102, 103, 104, 105, 106, 107, 108] (by decide +kernel) (by decide +kernel)
set_option maxRecDepth 20000 in
theorem gX12_reads_X12_next : GoodIn wsX12_reads (wsV RX12 115 RX12 yX12_next wsX12_next) := goodIn_app (goodIn_of _ (by decide +kernel)) ggX12_reads_X12_next
set_option maxRecDepth 20000 in
theorem ggX12_reads_X12_begins : GoodIn wsX12_reads wsX12_begins := goodIn_r _ [49, 4, 10, 50, 51, 52, 83, 84, 85, 86, 87, 88, 89, 90, 91, 92, 93, 94, 95, 96, 97, 98, 99, 100, 101, 102, 103, 104, 105, 106, 107, 108] (by decide +kernel) (by decide +kernel)
set_option maxRecDepth 20000 in
theorem gX12_reads_X12_begins : GoodIn wsX12_reads (wsV RX12 170 RX12 yX12_begins wsX12_begins) := goodIn_app (goodIn_of _ (by decide +kernel)) ggX12_reads_X12_begins
set_option maxRecDepth 20000 in
theorem ggX12_reads_X12_mustBe : GoodIn wsX12_reads wsX12_mustBe := goodIn_r _ [36, 37, 83, 84, 85, 86, 87, 88, 89, 90, 91, 92, 93, 94, 95, 96, 97, 98, 99, 100, 101, 102, 103, 104, 105, 106, 107, 108] (by decide +kernel) (by decide +kernel)
set_option maxRecDepth 20000 in
theorem gX12_reads_X12_mustBe : GoodIn wsX12_reads (wsV RX12 121 RX12 yX12_mustBe wsX12_mustBe) := goodIn_app (goodIn_of _ (by decide +kernel)) ggX12_reads_X12_mustBe
set_option maxRecDepth 20000 in
theorem ggX12_reads_X12_readsVillage : GoodIn wsX12_reads wsX12_readsVillage := goodIn_r _ [56, 1, 57, 10, 58, 59, 60, 8, 61, 37, 62, 63, 64, 65, 38, 39, 40, 41, 4, 12, 13, 14, 15, 3, 16, 17, 18, 19, 20, 21, 22, 23, 24, 25, 26, 27, 28, 29, 30, 31, 32, 42, 43, 44, 45, 33, 34, 35, 36, 83, 84, 85, 86, 87, 88, 89, 90, 91, 92, 93, 94, 95, 96, 97, 98, 99, 100, 101, 102, 103, 104, 105, 106, 107, 108] (by decide +kernel) (by decide +kernel)
set_option maxRecDepth 20000 in
theorem gX12_reads_X12_readsVillage : GoodIn wsX12_reads (wsV RX12 173 RX12 yX12_readsVillage wsX12_readsVillage) := goodIn_app (goodIn_of _ (by decide +kernel)) ggX12_reads_X12_readsVillage
set_option maxRecDepth 20000 in
theorem ggX12_reads_X12_readsGuard : GoodIn wsX12_reads wsX12_readsGuard := goodIn_r _ [69, 2, 1, 57, 58, 59, 60, 8, 61, 37, 62, 63, 64, 65, 10, 38, 39, 40, 41, 4, 12, 13, 14, 15, 3, 16, 17, 18, 19, 20, 21, 22, 23, 24, 25, 26, 27, 28, 29, 30, 31, 32, 42, 43, 44, 45, 33, 34, 35, 36, 83, 84, 85, 86, 87, 88, 89, 90, 91, 92, 93, 94, 95, 96, 97, 98, 99, 100, 101, 102, 103, 104, 105, 106, 107, 108] (by decide +kernel) (by decide +kernel)
set_option maxRecDepth 20000 in
theorem gX12_reads_X12_readsGuard : GoodIn wsX12_reads (wsV RX12 176 RX12 yX12_readsGuard wsX12_readsGuard) := goodIn_app (goodIn_of _ (by decide +kernel)) ggX12_reads_X12_readsGuard
set_option maxRecDepth 20000 in
theorem ggX12_reads_X12_readsPerson : GoodIn wsX12_reads wsX12_readsPerson := goodIn_r _ [73, 1, 10, 57, 58, 59, 60, 8, 61, 37, 74, 75, 76, 77, 4, 78, 79, 80, 81, 82, 12, 13, 14, 15, 3, 16, 17, 18, 19, 20, 21, 22, 23, 24, 25, 26, 27, 28, 29, 30, 31, 32, 33, 34, 35, 36, 38, 39, 40, 41, 62, 63, 64, 65, 42, 43, 44, 45, 83, 84, 85, 86, 87, 88, 89, 90, 91, 92, 93, 94, 95, 96, 97, 98, 99, 100, 101, 102, 103, 104, 105, 106, 107, 108] (by decide +kernel) (by decide +kernel)
set_option maxRecDepth 20000 in
theorem gX12_reads_X12_readsPerson : GoodIn wsX12_reads (wsV RX12 179 RX12 yX12_readsPerson wsX12_readsPerson) := goodIn_app (goodIn_of _ (by decide +kernel)) ggX12_reads_X12_readsPerson
set_option maxRecDepth 20000 in
theorem ggX12_ground_X12_reads : GoodIn wsX12_ground wsX12_reads := goodIn_r _ [14, 8, 15, 16, 17, 18, 19, 20, 13, 21, 22, 23, 24, 25, 26, 27, 2, 28, 5, 29, 30, 31, 32, 33, 34, 35, 36, 37, 38, 39, 40, 41, 42, 43, 44, 45, 46, 3, 47, 48, 49, 50, 51, 52, 53, 54, 55, 56, 57, 58, 59, 60, 61, 62, 63, 64, 65, 66, 67, 68, 69, 70, 71, 72, 73, 74, 75, 76, 77, 78, 79, 80, 81, 82, 83, 84, 85, 86, 87, 88, 89, 90, 91, 95, 96, 97, 98, 99, 100, 101, 102, 103, 104, 105, 106, 107, 108, 109, 110, 111, 112, 113, 114, 115, 116, 117, 118, 119, 120] (by decide +kernel) (by decide +kernel)
set_option maxRecDepth 20000 in
theorem gX12_ground_X12_reads : GoodIn wsX12_ground (wsV RX12 182 RX12 yX12_reads wsX12_reads) := goodIn_app (goodIn_of _ (by decide +kernel)) ggX12_ground_X12_reads
set_option maxRecDepth 20000 in
theorem ggX12_ground_X12_copies : GoodIn wsX12_ground wsX12_copies := goodIn_r _ [94] (by decide +kernel) (by decide +kernel)
set_option maxRecDepth 20000 in
theorem gX12_ground_X12_copies : GoodIn wsX12_ground (va_wsS RX12 193 yX12_copies wsX12_copies) := goodIn_app (goodIn_of _ (by decide +kernel)) ggX12_ground_X12_copies
set_option maxRecDepth 20000 in
theorem ggX12_isPerson_X12_in : GoodIn wsX12_isPerson wsX12_in := goodIn_r _ [5] (by decide +kernel) (by decide +kernel)
set_option maxRecDepth 20000 in
theorem gX12_isPerson_X12_in : GoodIn wsX12_isPerson (va_wsS RX12 54 yX12_in wsX12_in) := goodIn_app (goodIn_of _ (by decide +kernel)) ggX12_isPerson_X12_in
set_option maxRecDepth 20000 in
theorem ggX12_mayCross_X12_size : GoodIn wsX12_mayCross wsX12_size := goodIn_r _ [4] (by decide +kernel) (by decide +kernel)
set_option maxRecDepth 20000 in
theorem gX12_mayCross_X12_size : GoodIn wsX12_mayCross (va_wsS RX12 197 yX12_size wsX12_size) := goodIn_app (goodIn_of _ (by decide +kernel)) ggX12_mayCross_X12_size
set_option maxRecDepth 20000 in
theorem ggX12_mayCross_X12_whose : GoodIn wsX12_mayCross wsX12_whose := goodIn_r _ [7] (by decide +kernel) (by decide +kernel)
set_option maxRecDepth 20000 in
theorem gX12_mayCross_X12_whose : GoodIn wsX12_mayCross (va_wsS RX12 199 yX12_whose wsX12_whose) := goodIn_app (goodIn_of _ (by decide +kernel)) ggX12_mayCross_X12_whose
set_option maxRecDepth 20000 in
theorem ggX12_comes_X12_goesOut : GoodIn wsX12_comes wsX12_goesOut := goodIn_r _ [4] (by decide +kernel) (by decide +kernel)
set_option maxRecDepth 20000 in
theorem gX12_comes_X12_goesOut : GoodIn wsX12_comes (va_wsS RX12 203 yX12_goesOut wsX12_goesOut) := goodIn_app (goodIn_of _ (by decide +kernel)) ggX12_comes_X12_goesOut
set_option maxRecDepth 20000 in
theorem ggX12_crosses_X12_comes : GoodIn wsX12_crosses wsX12_comes := goodIn_r _ [4, 5, 6, 3, 7] (by decide +kernel) (by decide +kernel)
set_option maxRecDepth 20000 in
theorem gX12_crosses_X12_comes : GoodIn wsX12_crosses (va_wsS RX12 207 yX12_comes wsX12_comes) := goodIn_app (goodIn_of _ (by decide +kernel)) ggX12_crosses_X12_comes
set_option maxRecDepth 20000 in
theorem ggX12_crosses_X12_goesOut : GoodIn wsX12_crosses wsX12_goesOut := goodIn_r _ [7] (by decide +kernel) (by decide +kernel)
set_option maxRecDepth 20000 in
theorem gX12_crosses_X12_goesOut : GoodIn wsX12_crosses (va_wsS RX12 203 yX12_goesOut wsX12_goesOut) := goodIn_app (goodIn_of _ (by decide +kernel)) ggX12_crosses_X12_goesOut
set_option maxRecDepth 20000 in
theorem ggX12_sum_X12_whose : GoodIn wsX12_sum wsX12_whose := goodIn_r _ [4] (by decide +kernel) (by decide +kernel)
set_option maxRecDepth 20000 in
theorem gX12_sum_X12_whose : GoodIn wsX12_sum (va_wsS RX12 199 yX12_whose wsX12_whose) := goodIn_app (goodIn_of _ (by decide +kernel)) ggX12_sum_X12_whose
set_option maxRecDepth 20000 in
theorem ggX12_lead_X12_sum : GoodIn wsX12_lead wsX12_sum := goodIn_r _ [4, 5, 6, 3, 7] (by decide +kernel) (by decide +kernel)
set_option maxRecDepth 20000 in
theorem gX12_lead_X12_sum : GoodIn wsX12_lead (va_wsS RX12 211 yX12_sum wsX12_sum) := goodIn_app (goodIn_of _ (by decide +kernel)) ggX12_lead_X12_sum
set_option maxRecDepth 20000 in
theorem ggX12_isCell_X12_in : GoodIn wsX12_isCell wsX12_in := goodIn_r _ [5] (by decide +kernel) (by decide +kernel)
set_option maxRecDepth 20000 in
theorem gX12_isCell_X12_in : GoodIn wsX12_isCell (va_wsS RX12 54 yX12_in wsX12_in) := goodIn_app (goodIn_of _ (by decide +kernel)) ggX12_isCell_X12_in
set_option maxRecDepth 20000 in
theorem ggX12_remember_X12_copies : GoodIn wsX12_remember wsX12_copies := goodIn_r _ [7] (by decide +kernel) (by decide +kernel)
set_option maxRecDepth 20000 in
theorem gX12_remember_X12_copies : GoodIn wsX12_remember (va_wsS RX12 193 yX12_copies wsX12_copies) := goodIn_app (goodIn_of _ (by decide +kernel)) ggX12_remember_X12_copies
set_option maxRecDepth 20000 in
theorem ggX12_cross_X12_isPerson : GoodIn wsX12_cross wsX12_isPerson := goodIn_r _ [8, 2, 9, 10, 7, 11, 43, 44, 45, 46, 47, 48, 49, 50, 51, 52, 53, 54, 55, 56, 57, 58, 59, 60, 61, 62, 63, 64, 65, 66, 67, 68] (by decide +kernel) (by decide +kernel)
set_option maxRecDepth 20000 in
theorem gX12_cross_X12_isPerson : GoodIn wsX12_cross (wsV RX12 217 RX12 yX12_isPerson wsX12_isPerson) := goodIn_app (goodIn_of _ (by decide +kernel)) ggX12_cross_X12_isPerson
set_option maxRecDepth 20000 in
theorem ggX12_cross_X12_isCell : GoodIn wsX12_cross wsX12_isCell := goodIn_r _ [14, 15, 9, 10, 7, 11] (by decide +kernel) (by decide +kernel)
set_option maxRecDepth 20000 in
theorem gX12_cross_X12_isCell : GoodIn wsX12_cross (va_wsS RX12 220 yX12_isCell wsX12_isCell) := goodIn_app (goodIn_of _ (by decide +kernel)) ggX12_cross_X12_isCell
set_option maxRecDepth 20000 in
theorem ggX12_cross_X12_mayCross : GoodIn wsX12_cross wsX12_mayCross := goodIn_r _ [18, 19, 20, 7, 21, 22, 23, 24] (by decide +kernel) (by decide +kernel)
set_option maxRecDepth 20000 in
theorem gX12_cross_X12_mayCross : GoodIn wsX12_cross (va_wsS RX12 223 yX12_mayCross wsX12_mayCross) := goodIn_app (goodIn_of _ (by decide +kernel)) ggX12_cross_X12_mayCross
set_option maxRecDepth 20000 in
theorem ggX12_cross_X12_remember : GoodIn wsX12_cross wsX12_remember := goodIn_r _ [28, 29, 30, 2, 31, 32, 7, 33, 43, 44, 45, 46, 47, 48, 49, 50, 51, 52, 53, 54, 55, 56, 57, 58, 59, 60, 61, 62, 63, 64, 65, 66, 67, 68] (by decide +kernel) (by decide +kernel)
set_option maxRecDepth 20000 in
theorem gX12_cross_X12_remember : GoodIn wsX12_cross (wsV RX12 228 RX12 yX12_remember wsX12_remember) := goodIn_app (goodIn_of _ (by decide +kernel)) ggX12_cross_X12_remember
set_option maxRecDepth 20000 in
theorem ggX12_cross_X12_crosses : GoodIn wsX12_cross wsX12_crosses := goodIn_r _ [36, 37, 38, 7, 39, 40, 41, 42] (by decide +kernel) (by decide +kernel)
set_option maxRecDepth 20000 in
theorem gX12_cross_X12_crosses : GoodIn wsX12_cross (va_wsS RX12 231 yX12_crosses wsX12_crosses) := goodIn_app (goodIn_of _ (by decide +kernel)) ggX12_cross_X12_crosses
set_option maxRecDepth 20000 in
theorem ggX12_undo_X12_copies : GoodIn wsX12_undo wsX12_copies := goodIn_r _ [8] (by decide +kernel) (by decide +kernel)
set_option maxRecDepth 20000 in
theorem gX12_undo_X12_copies : GoodIn wsX12_undo (va_wsS RX12 193 yX12_copies wsX12_copies) := goodIn_app (goodIn_of _ (by decide +kernel)) ggX12_undo_X12_copies
set_option maxRecDepth 20000 in
theorem ggX12_person_X12_isPerson : GoodIn wsX12_person wsX12_isPerson := goodIn_r _ [8, 3, 9, 10, 7, 11, 21, 22, 23, 24, 25, 26, 27, 28, 29, 30, 31, 32, 33, 34, 35, 36, 37, 38, 39, 40, 41, 42, 43, 44, 45, 46] (by decide +kernel) (by decide +kernel)
set_option maxRecDepth 20000 in
theorem gX12_person_X12_isPerson : GoodIn wsX12_person (wsV RX12 217 RX12 yX12_isPerson wsX12_isPerson) := goodIn_app (goodIn_of _ (by decide +kernel)) ggX12_person_X12_isPerson
set_option maxRecDepth 20000 in
theorem ggX12_person_X12_in : GoodIn wsX12_person wsX12_in := goodIn_r _ [11] (by decide +kernel) (by decide +kernel)
set_option maxRecDepth 20000 in
theorem gX12_person_X12_in : GoodIn wsX12_person (va_wsS RX12 54 yX12_in wsX12_in) := goodIn_app (goodIn_of _ (by decide +kernel)) ggX12_person_X12_in
set_option maxRecDepth 20000 in
theorem ggX12_person_X12_mayCross : GoodIn wsX12_person wsX12_mayCross := goodIn_r _ [14, 15, 16, 7, 17, 18, 19, 20] (by decide +kernel) (by decide +kernel)
set_option maxRecDepth 20000 in
theorem gX12_person_X12_mayCross : GoodIn wsX12_person (va_wsS RX12 223 yX12_mayCross wsX12_mayCross) := goodIn_app (goodIn_of _ (by decide +kernel)) ggX12_person_X12_mayCross
set_option maxRecDepth 20000 in
theorem ggX12_cell_X12_isCell : GoodIn wsX12_cell wsX12_isCell := goodIn_r _ [9, 10, 11, 12, 8, 13] (by decide +kernel) (by decide +kernel)
set_option maxRecDepth 20000 in
theorem gX12_cell_X12_isCell : GoodIn wsX12_cell (va_wsS RX12 220 yX12_isCell wsX12_isCell) := goodIn_app (goodIn_of _ (by decide +kernel)) ggX12_cell_X12_isCell
set_option maxRecDepth 20000 in
theorem ggX12_cell_X12_in : GoodIn wsX12_cell wsX12_in := goodIn_r _ [13] (by decide +kernel) (by decide +kernel)
set_option maxRecDepth 20000 in
theorem gX12_cell_X12_in : GoodIn wsX12_cell (va_wsS RX12 54 yX12_in wsX12_in) := goodIn_app (goodIn_of _ (by decide +kernel)) ggX12_cell_X12_in
set_option maxRecDepth 20000 in
theorem ggX12_cell_X12_whose : GoodIn wsX12_cell wsX12_whose := goodIn_r _ [16] (by decide +kernel) (by decide +kernel)
set_option maxRecDepth 20000 in
theorem gX12_cell_X12_whose : GoodIn wsX12_cell (va_wsS RX12 199 yX12_whose wsX12_whose) := goodIn_app (goodIn_of _ (by decide +kernel)) ggX12_cell_X12_whose
set_option maxRecDepth 20000 in
theorem ggX12_land_X12_in : GoodIn wsX12_land wsX12_in := goodIn_r _ [9] (by decide +kernel) (by decide +kernel)
set_option maxRecDepth 20000 in
theorem gX12_land_X12_in : GoodIn wsX12_land (va_wsS RX12 54 yX12_in wsX12_in) := goodIn_app (goodIn_of _ (by decide +kernel)) ggX12_land_X12_in
set_option maxRecDepth 20000 in
theorem ggX12_land_X12_lead : GoodIn wsX12_land wsX12_lead := goodIn_r _ [12, 13, 14, 8, 15, 16, 17, 18] (by decide +kernel) (by decide +kernel)
set_option maxRecDepth 20000 in
theorem gX12_land_X12_lead : GoodIn wsX12_land (va_wsS RX12 236 yX12_lead wsX12_lead) := goodIn_app (goodIn_of _ (by decide +kernel)) ggX12_land_X12_lead
set_option maxRecDepth 20000 in
theorem ggX12_land_X12_sum : GoodIn wsX12_land wsX12_sum := goodIn_r _ [15, 16, 17, 8, 18] (by decide +kernel) (by decide +kernel)
set_option maxRecDepth 20000 in
theorem gX12_land_X12_sum : GoodIn wsX12_land (va_wsS RX12 211 yX12_sum wsX12_sum) := goodIn_app (goodIn_of _ (by decide +kernel)) ggX12_land_X12_sum
set_option maxRecDepth 20000 in
theorem ggX12_bestOn_X12_mayCross : GoodIn wsX12_bestOn wsX12_mayCross := goodIn_r _ [7, 8, 9, 6, 10, 11, 12, 13] (by decide +kernel) (by decide +kernel)
set_option maxRecDepth 20000 in
theorem gX12_bestOn_X12_mayCross : GoodIn wsX12_bestOn (va_wsS RX12 223 yX12_mayCross wsX12_mayCross) := goodIn_app (goodIn_of _ (by decide +kernel)) ggX12_bestOn_X12_mayCross
set_option maxRecDepth 20000 in
theorem ggX12_bestOn_X12_copies : GoodIn wsX12_bestOn wsX12_copies := goodIn_r _ [16] (by decide +kernel) (by decide +kernel)
set_option maxRecDepth 20000 in
theorem gX12_bestOn_X12_copies : GoodIn wsX12_bestOn (va_wsS RX12 193 yX12_copies wsX12_copies) := goodIn_app (goodIn_of _ (by decide +kernel)) ggX12_bestOn_X12_copies
set_option maxRecDepth 20000 in
theorem ggX12_bestOn_X12_crosses : GoodIn wsX12_bestOn wsX12_crosses := goodIn_r _ [19, 20, 21, 6, 22, 23, 24, 25] (by decide +kernel) (by decide +kernel)
set_option maxRecDepth 20000 in
theorem gX12_bestOn_X12_crosses : GoodIn wsX12_bestOn (va_wsS RX12 231 yX12_crosses wsX12_crosses) := goodIn_app (goodIn_of _ (by decide +kernel)) ggX12_bestOn_X12_crosses
set_option maxRecDepth 20000 in
theorem ggX12_bestOn_X12_lead : GoodIn wsX12_bestOn wsX12_lead := goodIn_r _ [28, 29, 30, 6, 31, 11, 12, 13] (by decide +kernel) (by decide +kernel)
set_option maxRecDepth 20000 in
theorem gX12_bestOn_X12_lead : GoodIn wsX12_bestOn (va_wsS RX12 236 yX12_lead wsX12_lead) := goodIn_app (goodIn_of _ (by decide +kernel)) ggX12_bestOn_X12_lead
set_option maxRecDepth 20000 in
theorem ggX12_bestOn_X12_sum : GoodIn wsX12_bestOn wsX12_sum := goodIn_r _ [31, 11, 12, 6, 13] (by decide +kernel) (by decide +kernel)
set_option maxRecDepth 20000 in
theorem gX12_bestOn_X12_sum : GoodIn wsX12_bestOn (va_wsS RX12 211 yX12_sum wsX12_sum) := goodIn_app (goodIn_of _ (by decide +kernel)) ggX12_bestOn_X12_sum
set_option maxRecDepth 20000 in
theorem ggX12_best_X12_isPerson : GoodIn wsX12_best wsX12_isPerson := goodIn_r _ [9, 2, 10, 11, 8, 12, 45, 46, 47, 48, 49, 50, 51, 52, 53, 54, 55, 56, 57, 58, 59, 60, 61, 62, 63, 64, 65, 66, 67, 68, 69, 70] (by decide +kernel) (by decide +kernel)
set_option maxRecDepth 20000 in
theorem gX12_best_X12_isPerson : GoodIn wsX12_best (wsV RX12 217 RX12 yX12_isPerson wsX12_isPerson) := goodIn_app (goodIn_of _ (by decide +kernel)) ggX12_best_X12_isPerson
set_option maxRecDepth 20000 in
theorem ggX12_best_X12_in : GoodIn wsX12_best wsX12_in := goodIn_r _ [12] (by decide +kernel) (by decide +kernel)
set_option maxRecDepth 20000 in
theorem gX12_best_X12_in : GoodIn wsX12_best (va_wsS RX12 54 yX12_in wsX12_in) := goodIn_app (goodIn_of _ (by decide +kernel)) ggX12_best_X12_in
set_option maxRecDepth 20000 in
theorem ggX12_best_X12_bestOn : GoodIn wsX12_best wsX12_bestOn := goodIn_r _ [16, 3, 17, 4, 18, 19, 8, 20, 21, 22, 23, 24, 25, 26, 27, 28, 29, 30, 31, 32, 33, 34, 35, 36, 37, 38, 39, 40, 41, 42, 43, 44, 45, 46, 47, 48, 49, 50, 51, 52, 53, 54, 55, 56, 57, 58, 59, 60, 61, 62, 63, 64, 65, 66, 67, 68, 69, 70] (by decide +kernel) (by decide +kernel)
set_option maxRecDepth 20000 in
theorem gX12_best_X12_bestOn : GoodIn wsX12_best (wsV RX12 243 RX12 yX12_bestOn wsX12_bestOn) := goodIn_app (goodIn_of _ (by decide +kernel)) ggX12_best_X12_bestOn
set_option maxRecDepth 20000 in
theorem ggX12_areTwo_X12_isPerson : GoodIn wsX12_areTwo wsX12_isPerson := goodIn_r _ [5, 6, 7, 8, 4, 9, 10, 11, 12, 13, 14, 15, 16, 17, 18, 19, 20, 21, 22, 23, 24, 25, 26, 27, 28, 29, 30, 31, 32, 33, 34, 35] (by decide +kernel) (by decide +kernel)
set_option maxRecDepth 20000 in
theorem gX12_areTwo_X12_isPerson : GoodIn wsX12_areTwo (wsV RX12 217 RX12 yX12_isPerson wsX12_isPerson) := goodIn_app (goodIn_of _ (by decide +kernel)) ggX12_areTwo_X12_isPerson
set_option maxRecDepth 20000 in
theorem ggX12_answer_X12_areTwo : GoodIn wsX12_answer wsX12_areTwo := goodIn_r _ [10, 11, 12, 13, 9, 14, 2, 15, 16, 17, 50, 51, 52, 53, 54, 55, 56, 57, 58, 59, 60, 61, 62, 63, 64, 65, 66, 67, 68, 69, 70, 71, 72, 73, 74, 75] (by decide +kernel) (by decide +kernel)
set_option maxRecDepth 20000 in
theorem gX12_answer_X12_areTwo : GoodIn wsX12_answer (wsV RX12 246 RX12 yX12_areTwo wsX12_areTwo) := goodIn_app (goodIn_of _ (by decide +kernel)) ggX12_answer_X12_areTwo
set_option maxRecDepth 20000 in
theorem ggX12_answer_X12_in : GoodIn wsX12_answer wsX12_in := goodIn_r _ [17] (by decide +kernel) (by decide +kernel)
set_option maxRecDepth 20000 in
theorem gX12_answer_X12_in : GoodIn wsX12_answer (va_wsS RX12 54 yX12_in wsX12_in) := goodIn_app (goodIn_of _ (by decide +kernel)) ggX12_answer_X12_in
set_option maxRecDepth 20000 in
theorem ggX12_answer_X12_bestOn : GoodIn wsX12_answer wsX12_bestOn := goodIn_r _ [21, 4, 22, 5, 23, 24, 9, 25, 26, 27, 28, 29, 30, 31, 32, 33, 34, 35, 36, 37, 38, 39, 40, 41, 42, 43, 44, 45, 46, 47, 48, 49, 50, 51, 52, 53, 54, 55, 56, 57, 58, 59, 60, 61, 62, 63, 64, 65, 66, 67, 68, 69, 70, 71, 72, 73, 74, 75] (by decide +kernel) (by decide +kernel)
set_option maxRecDepth 20000 in
theorem gX12_answer_X12_bestOn : GoodIn wsX12_answer (wsV RX12 243 RX12 yX12_bestOn wsX12_bestOn) := goodIn_app (goodIn_of _ (by decide +kernel)) ggX12_answer_X12_bestOn
set_option maxRecDepth 20000 in
theorem ggX12_answer_X12_copies : GoodIn wsX12_answer wsX12_copies := goodIn_r _ [34] (by decide +kernel) (by decide +kernel)
set_option maxRecDepth 20000 in
theorem gX12_answer_X12_copies : GoodIn wsX12_answer (va_wsS RX12 193 yX12_copies wsX12_copies) := goodIn_app (goodIn_of _ (by decide +kernel)) ggX12_answer_X12_copies
set_option maxRecDepth 20000 in
theorem ggX12_answer_X12_crosses : GoodIn wsX12_answer wsX12_crosses := goodIn_r _ [37, 38, 39, 9, 40, 41, 42, 43] (by decide +kernel) (by decide +kernel)
set_option maxRecDepth 20000 in
theorem gX12_answer_X12_crosses : GoodIn wsX12_answer (va_wsS RX12 231 yX12_crosses wsX12_crosses) := goodIn_app (goodIn_of _ (by decide +kernel)) ggX12_answer_X12_crosses
set_option maxRecDepth 20000 in
theorem ggX12_game_X12_areTwo : GoodIn wsX12_game wsX12_areTwo := goodIn_r _ [10, 11, 12, 13, 9, 14, 3, 15, 16, 17, 50, 51, 52, 53, 54, 55, 56, 57, 58, 59, 60, 61, 62, 63, 64, 65, 66, 67, 68, 69, 70, 71, 72, 73, 74, 75] (by decide +kernel) (by decide +kernel)
set_option maxRecDepth 20000 in
theorem gX12_game_X12_areTwo : GoodIn wsX12_game (wsV RX12 246 RX12 yX12_areTwo wsX12_areTwo) := goodIn_app (goodIn_of _ (by decide +kernel)) ggX12_game_X12_areTwo
set_option maxRecDepth 20000 in
theorem ggX12_game_X12_in : GoodIn wsX12_game wsX12_in := goodIn_r _ [17] (by decide +kernel) (by decide +kernel)
set_option maxRecDepth 20000 in
theorem gX12_game_X12_in : GoodIn wsX12_game (va_wsS RX12 54 yX12_in wsX12_in) := goodIn_app (goodIn_of _ (by decide +kernel)) ggX12_game_X12_in
set_option maxRecDepth 20000 in
theorem ggX12_game_X12_mayCross : GoodIn wsX12_game wsX12_mayCross := goodIn_r _ [20, 21, 22, 9, 23, 24, 25, 26] (by decide +kernel) (by decide +kernel)
set_option maxRecDepth 20000 in
theorem gX12_game_X12_mayCross : GoodIn wsX12_game (va_wsS RX12 223 yX12_mayCross wsX12_mayCross) := goodIn_app (goodIn_of _ (by decide +kernel)) ggX12_game_X12_mayCross
set_option maxRecDepth 20000 in
theorem ggX12_game_X12_copies : GoodIn wsX12_game wsX12_copies := goodIn_r _ [29] (by decide +kernel) (by decide +kernel)
set_option maxRecDepth 20000 in
theorem gX12_game_X12_copies : GoodIn wsX12_game (va_wsS RX12 193 yX12_copies wsX12_copies) := goodIn_app (goodIn_of _ (by decide +kernel)) ggX12_game_X12_copies
set_option maxRecDepth 20000 in
theorem ggX12_game_X12_crosses : GoodIn wsX12_game wsX12_crosses := goodIn_r _ [32, 33, 34, 9, 35, 36, 37, 38] (by decide +kernel) (by decide +kernel)
set_option maxRecDepth 20000 in
theorem gX12_game_X12_crosses : GoodIn wsX12_game (va_wsS RX12 231 yX12_crosses wsX12_crosses) := goodIn_app (goodIn_of _ (by decide +kernel)) ggX12_game_X12_crosses
set_option maxRecDepth 20000 in
theorem ggX12_game_X12_lead : GoodIn wsX12_game wsX12_lead := goodIn_r _ [41, 42, 43, 9, 44, 24, 25, 26] (by decide +kernel) (by decide +kernel)
set_option maxRecDepth 20000 in
theorem gX12_game_X12_lead : GoodIn wsX12_game (va_wsS RX12 236 yX12_lead wsX12_lead) := goodIn_app (goodIn_of _ (by decide +kernel)) ggX12_game_X12_lead
set_option maxRecDepth 20000 in
theorem ggX12_game_X12_bestOn : GoodIn wsX12_game wsX12_bestOn := goodIn_r _ [48, 2, 49, 5, 18, 19, 9, 20, 21, 22, 23, 24, 25, 26, 27, 28, 29, 30, 31, 32, 33, 34, 35, 36, 37, 38, 39, 40, 41, 42, 43, 44, 50, 51, 52, 53, 54, 55, 56, 57, 58, 59, 60, 61, 62, 63, 64, 65, 66, 67, 68, 69, 70, 71, 72, 73, 74, 75] (by decide +kernel) (by decide +kernel)
set_option maxRecDepth 20000 in
theorem gX12_game_X12_bestOn : GoodIn wsX12_game (wsV RX12 243 RX12 yX12_bestOn wsX12_bestOn) := goodIn_app (goodIn_of _ (by decide +kernel)) ggX12_game_X12_bestOn
set_option maxRecDepth 20000 in
theorem ggX12_held_X12_in : GoodIn wsX12_held wsX12_in := goodIn_r _ [11] (by decide +kernel) (by decide +kernel)
set_option maxRecDepth 20000 in
theorem gX12_held_X12_in : GoodIn wsX12_held (va_wsS RX12 54 yX12_in wsX12_in) := goodIn_app (goodIn_of _ (by decide +kernel)) ggX12_held_X12_in
set_option maxRecDepth 20000 in
theorem ggX12_held_X12_mayCross : GoodIn wsX12_held wsX12_mayCross := goodIn_r _ [14, 15, 16, 10, 17, 18, 19, 20] (by decide +kernel) (by decide +kernel)
set_option maxRecDepth 20000 in
theorem gX12_held_X12_mayCross : GoodIn wsX12_held (va_wsS RX12 223 yX12_mayCross wsX12_mayCross) := goodIn_app (goodIn_of _ (by decide +kernel)) ggX12_held_X12_mayCross
set_option maxRecDepth 20000 in
theorem ggX12_held_X12_copies : GoodIn wsX12_held wsX12_copies := goodIn_r _ [23] (by decide +kernel) (by decide +kernel)
set_option maxRecDepth 20000 in
theorem gX12_held_X12_copies : GoodIn wsX12_held (va_wsS RX12 193 yX12_copies wsX12_copies) := goodIn_app (goodIn_of _ (by decide +kernel)) ggX12_held_X12_copies
set_option maxRecDepth 20000 in
theorem ggX12_held_X12_crosses : GoodIn wsX12_held wsX12_crosses := goodIn_r _ [26, 27, 28, 10, 29, 30, 31, 32] (by decide +kernel) (by decide +kernel)
set_option maxRecDepth 20000 in
theorem gX12_held_X12_crosses : GoodIn wsX12_held (va_wsS RX12 231 yX12_crosses wsX12_crosses) := goodIn_app (goodIn_of _ (by decide +kernel)) ggX12_held_X12_crosses
set_option maxRecDepth 20000 in
theorem ggX12_held_X12_sum : GoodIn wsX12_held wsX12_sum := goodIn_r _ [35, 18, 19, 10, 20] (by decide +kernel) (by decide +kernel)
set_option maxRecDepth 20000 in
theorem gX12_held_X12_sum : GoodIn wsX12_held (va_wsS RX12 211 yX12_sum wsX12_sum) := goodIn_app (goodIn_of _ (by decide +kernel)) ggX12_held_X12_sum
set_option maxRecDepth 20000 in
theorem ggX12_isSo_X12_whose : GoodIn wsX12_isSo wsX12_whose := goodIn_r _ [5] (by decide +kernel) (by decide +kernel)
set_option maxRecDepth 20000 in
theorem gX12_isSo_X12_whose : GoodIn wsX12_isSo (va_wsS RX12 199 yX12_whose wsX12_whose) := goodIn_app (goodIn_of _ (by decide +kernel)) ggX12_isSo_X12_whose
set_option maxRecDepth 20000 in
theorem ggX12_went_X12_isRow : GoodIn wsX12_went wsX12_isRow := goodIn_r _ [14, 15, 16, 17, 13, 18] (by decide +kernel) (by decide +kernel)
set_option maxRecDepth 20000 in
theorem gX12_went_X12_isRow : GoodIn wsX12_went (va_wsS RX12 58 yX12_isRow wsX12_isRow) := goodIn_app (goodIn_of _ (by decide +kernel)) ggX12_went_X12_isRow
set_option maxRecDepth 20000 in
theorem ggX12_went_X12_in : GoodIn wsX12_went wsX12_in := goodIn_r _ [18] (by decide +kernel) (by decide +kernel)
set_option maxRecDepth 20000 in
theorem gX12_went_X12_in : GoodIn wsX12_went (va_wsS RX12 54 yX12_in wsX12_in) := goodIn_app (goodIn_of _ (by decide +kernel)) ggX12_went_X12_in
set_option maxRecDepth 20000 in
theorem ggX12_went_X12_found : GoodIn wsX12_went wsX12_found := goodIn_r _ [22, 23, 24, 54, 55, 56, 57, 58, 59, 60, 61, 62, 63, 64, 65, 66, 67, 68, 69, 70, 71, 72, 73, 74, 75, 76, 77, 78, 79] (by decide +kernel) (by decide +kernel)
set_option maxRecDepth 20000 in
theorem gX12_went_X12_found : GoodIn wsX12_went (wsV RX12 65 RX12 yX12_found wsX12_found) := goodIn_app (goodIn_of _ (by decide +kernel)) ggX12_went_X12_found
set_option maxRecDepth 20000 in
theorem ggX12_went_X12_mayCross : GoodIn wsX12_went wsX12_mayCross := goodIn_r _ [27, 28, 29, 13, 30, 31, 32, 33] (by decide +kernel) (by decide +kernel)
set_option maxRecDepth 20000 in
theorem gX12_went_X12_mayCross : GoodIn wsX12_went (va_wsS RX12 223 yX12_mayCross wsX12_mayCross) := goodIn_app (goodIn_of _ (by decide +kernel)) ggX12_went_X12_mayCross
set_option maxRecDepth 20000 in
theorem ggX12_went_X12_copies : GoodIn wsX12_went wsX12_copies := goodIn_r _ [36] (by decide +kernel) (by decide +kernel)
set_option maxRecDepth 20000 in
theorem gX12_went_X12_copies : GoodIn wsX12_went (va_wsS RX12 193 yX12_copies wsX12_copies) := goodIn_app (goodIn_of _ (by decide +kernel)) ggX12_went_X12_copies
set_option maxRecDepth 20000 in
theorem ggX12_went_X12_crosses : GoodIn wsX12_went wsX12_crosses := goodIn_r _ [39, 40, 41, 13, 42, 43, 44, 45] (by decide +kernel) (by decide +kernel)
set_option maxRecDepth 20000 in
theorem gX12_went_X12_crosses : GoodIn wsX12_went (va_wsS RX12 231 yX12_crosses wsX12_crosses) := goodIn_app (goodIn_of _ (by decide +kernel)) ggX12_went_X12_crosses
set_option maxRecDepth 20000 in
theorem ggX12_went_X12_isSo : GoodIn wsX12_went wsX12_isSo := goodIn_r _ [49, 6, 31, 32, 13, 33, 54, 55, 56, 57, 58, 59, 60, 61, 62, 63, 64, 65, 66, 67, 68, 69, 70, 71, 72, 73, 74, 75, 76, 77, 78, 79] (by decide +kernel) (by decide +kernel)
set_option maxRecDepth 20000 in
theorem gX12_went_X12_isSo : GoodIn wsX12_went (wsV RX12 253 RX12 yX12_isSo wsX12_isSo) := goodIn_app (goodIn_of _ (by decide +kernel)) ggX12_went_X12_isSo
set_option maxRecDepth 20000 in
theorem ggX12_went_X12_well : GoodIn wsX12_went wsX12_well := goodIn_r _ [53, 23, 54, 55, 56, 57, 58, 59, 60, 61, 62, 63, 64, 65, 66, 67, 68, 69, 70, 71, 72, 73, 74, 75, 76, 77, 78, 79] (by decide +kernel) (by decide +kernel)
set_option maxRecDepth 20000 in
theorem gX12_went_X12_well : GoodIn wsX12_went (wsV RX12 69 RX12 yX12_well wsX12_well) := goodIn_app (goodIn_of _ (by decide +kernel)) ggX12_went_X12_well
set_option maxRecDepth 20000 in
theorem ggX12_image_X12_in : GoodIn wsX12_image wsX12_in := goodIn_r _ [10] (by decide +kernel) (by decide +kernel)
set_option maxRecDepth 20000 in
theorem gX12_image_X12_in : GoodIn wsX12_image (va_wsS RX12 54 yX12_in wsX12_in) := goodIn_app (goodIn_of _ (by decide +kernel)) ggX12_image_X12_in
set_option maxRecDepth 20000 in
theorem ggX12_image_X12_copies : GoodIn wsX12_image wsX12_copies := goodIn_r _ [13] (by decide +kernel) (by decide +kernel)
set_option maxRecDepth 20000 in
theorem gX12_image_X12_copies : GoodIn wsX12_image (va_wsS RX12 193 yX12_copies wsX12_copies) := goodIn_app (goodIn_of _ (by decide +kernel)) ggX12_image_X12_copies
set_option maxRecDepth 20000 in
theorem ggX12_restore_X12_in : GoodIn wsX12_restore wsX12_in := goodIn_r _ [10] (by decide +kernel) (by decide +kernel)
set_option maxRecDepth 20000 in
theorem gX12_restore_X12_in : GoodIn wsX12_restore (va_wsS RX12 54 yX12_in wsX12_in) := goodIn_app (goodIn_of _ (by decide +kernel)) ggX12_restore_X12_in
set_option maxRecDepth 20000 in
theorem ggX12_restore_X12_copies : GoodIn wsX12_restore wsX12_copies := goodIn_r _ [13] (by decide +kernel) (by decide +kernel)
set_option maxRecDepth 20000 in
theorem gX12_restore_X12_copies : GoodIn wsX12_restore (va_wsS RX12 193 yX12_copies wsX12_copies) := goodIn_app (goodIn_of _ (by decide +kernel)) ggX12_restore_X12_copies
set_option maxRecDepth 20000 in
theorem ggX12_kind_X12_isPerson : GoodIn wsX12_kind wsX12_isPerson := goodIn_r _ [7, 1, 8, 9, 6, 10, 11, 12, 13, 14, 15, 16, 17, 18, 19, 20, 21, 22, 23, 24, 25, 26, 27, 28, 29, 30, 31, 32, 33, 34, 35, 36] (by decide +kernel) (by decide +kernel)
set_option maxRecDepth 20000 in
theorem gX12_kind_X12_isPerson : GoodIn wsX12_kind (wsV RX12 217 RX12 yX12_isPerson wsX12_isPerson) := goodIn_app (goodIn_of _ (by decide +kernel)) ggX12_kind_X12_isPerson
set_option maxRecDepth 20000 in
theorem ggX12_as_X12_isPerson : GoodIn wsX12_as wsX12_isPerson := goodIn_r _ [8, 3, 9, 10, 7, 11, 25, 26, 27, 28, 29, 30, 31, 32, 33, 34, 35, 36, 37, 38, 39, 40, 41, 42, 43, 44, 45, 46, 47, 48, 49, 50] (by decide +kernel) (by decide +kernel)
set_option maxRecDepth 20000 in
theorem gX12_as_X12_isPerson : GoodIn wsX12_as (wsV RX12 217 RX12 yX12_isPerson wsX12_isPerson) := goodIn_app (goodIn_of _ (by decide +kernel)) ggX12_as_X12_isPerson
set_option maxRecDepth 20000 in
theorem ggX12_as_X12_in : GoodIn wsX12_as wsX12_in := goodIn_r _ [11] (by decide +kernel) (by decide +kernel)
set_option maxRecDepth 20000 in
theorem gX12_as_X12_in : GoodIn wsX12_as (va_wsS RX12 54 yX12_in wsX12_in) := goodIn_app (goodIn_of _ (by decide +kernel)) ggX12_as_X12_in
set_option maxRecDepth 20000 in
theorem ggX12_as_X12_isOf : GoodIn wsX12_as wsX12_isOf := goodIn_r _ [14] (by decide +kernel) (by decide +kernel)
set_option maxRecDepth 20000 in
theorem gX12_as_X12_isOf : GoodIn wsX12_as (va_wsS RX12 259 yX12_isOf wsX12_isOf) := goodIn_app (goodIn_of _ (by decide +kernel)) ggX12_as_X12_isOf
set_option maxRecDepth 20000 in
theorem ggX12_as_X12_well : GoodIn wsX12_as wsX12_well := goodIn_r _ [18, 19, 25, 26, 27, 28, 29, 30, 31, 32, 33, 34, 35, 36, 37, 38, 39, 40, 41, 42, 43, 44, 45, 46, 47, 48, 49, 50] (by decide +kernel) (by decide +kernel)
set_option maxRecDepth 20000 in
theorem gX12_as_X12_well : GoodIn wsX12_as (wsV RX12 69 RX12 yX12_well wsX12_well) := goodIn_app (goodIn_of _ (by decide +kernel)) ggX12_as_X12_well
set_option maxRecDepth 20000 in
theorem ggX12_as_X12_found : GoodIn wsX12_as wsX12_found := goodIn_r _ [23, 19, 24, 25, 26, 27, 28, 29, 30, 31, 32, 33, 34, 35, 36, 37, 38, 39, 40, 41, 42, 43, 44, 45, 46, 47, 48, 49, 50] (by decide +kernel) (by decide +kernel)
set_option maxRecDepth 20000 in
theorem gX12_as_X12_found : GoodIn wsX12_as (wsV RX12 65 RX12 yX12_found wsX12_found) := goodIn_app (goodIn_of _ (by decide +kernel)) ggX12_as_X12_found
set_option maxRecDepth 20000 in
theorem ggX12_mark_X12_leave : GoodIn wsX12_mark wsX12_leave := goodIn_r _ [9, 10, 11, 12, 13, 14, 15, 16, 17, 18, 19, 20, 21, 22, 23, 24, 25, 26, 27, 28, 29, 30, 31, 32, 33, 34, 35, 36, 37, 38] (by decide +kernel) (by decide +kernel)
set_option maxRecDepth 20000 in
theorem gX12_mark_X12_leave : GoodIn wsX12_mark (wsV RX12 273 RX12 yX12_leave wsX12_leave) := goodIn_app (goodIn_of _ (by decide +kernel)) ggX12_mark_X12_leave
set_option maxRecDepth 20000 in
theorem ggX12_sizeOf_X12_leave : GoodIn wsX12_sizeOf wsX12_leave := goodIn_r _ [8, 9, 10, 11, 12, 13, 14, 15, 16, 17, 18, 19, 20, 21, 22, 23, 24, 25, 26, 27, 28, 29, 30, 31, 32, 33, 34, 35, 36, 37] (by decide +kernel) (by decide +kernel)
set_option maxRecDepth 20000 in
theorem gX12_sizeOf_X12_leave : GoodIn wsX12_sizeOf (wsV RX12 273 RX12 yX12_leave wsX12_leave) := goodIn_app (goodIn_of _ (by decide +kernel)) ggX12_sizeOf_X12_leave
set_option maxRecDepth 20000 in
theorem ggX12_ask_X12_isPerson : GoodIn wsX12_ask wsX12_isPerson := goodIn_r _ [11, 3, 12, 13, 10, 14, 34, 35, 36, 37, 38, 39, 40, 41, 42, 43, 44, 45, 46, 47, 48, 49, 50, 51, 52, 53, 54, 55, 56, 57, 58, 59] (by decide +kernel) (by decide +kernel)
set_option maxRecDepth 20000 in
theorem gX12_ask_X12_isPerson : GoodIn wsX12_ask (wsV RX12 217 RX12 yX12_isPerson wsX12_isPerson) := goodIn_app (goodIn_of _ (by decide +kernel)) ggX12_ask_X12_isPerson
set_option maxRecDepth 20000 in
theorem ggX12_ask_X12_in : GoodIn wsX12_ask wsX12_in := goodIn_r _ [14] (by decide +kernel) (by decide +kernel)
set_option maxRecDepth 20000 in
theorem gX12_ask_X12_in : GoodIn wsX12_ask (va_wsS RX12 54 yX12_in wsX12_in) := goodIn_app (goodIn_of _ (by decide +kernel)) ggX12_ask_X12_in
set_option maxRecDepth 20000 in
theorem ggX12_ask_X12_mark : GoodIn wsX12_ask wsX12_mark := goodIn_r _ [18, 3, 19, 20, 21, 22, 23, 24, 10, 25, 26, 27, 2, 34, 35, 36, 37, 38, 39, 40, 41, 42, 43, 44, 45, 46, 47, 48, 49, 50, 51, 52, 53, 54, 55, 56, 57, 58, 59] (by decide +kernel) (by decide +kernel)
set_option maxRecDepth 20000 in
theorem gX12_ask_X12_mark : GoodIn wsX12_ask (wsV RX12 281 RX12 yX12_mark wsX12_mark) := goodIn_app (goodIn_of _ (by decide +kernel)) ggX12_ask_X12_mark
set_option maxRecDepth 20000 in
theorem ggX12_ask_X12_leave : GoodIn wsX12_ask wsX12_leave := goodIn_r _ [25, 26, 27, 2, 34, 35, 36, 37, 38, 39, 40, 41, 42, 43, 44, 45, 46, 47, 48, 49, 50, 51, 52, 53, 54, 55, 56, 57, 58, 59] (by decide +kernel) (by decide +kernel)
set_option maxRecDepth 20000 in
theorem gX12_ask_X12_leave : GoodIn wsX12_ask (wsV RX12 273 RX12 yX12_leave wsX12_leave) := goodIn_app (goodIn_of _ (by decide +kernel)) ggX12_ask_X12_leave
set_option maxRecDepth 20000 in
theorem ggX12_ask_X12_sizeOf : GoodIn wsX12_ask wsX12_sizeOf := goodIn_r _ [31, 3, 32, 33, 22, 23, 24, 10, 25, 26, 27, 2, 34, 35, 36, 37, 38, 39, 40, 41, 42, 43, 44, 45, 46, 47, 48, 49, 50, 51, 52, 53, 54, 55, 56, 57, 58, 59] (by decide +kernel) (by decide +kernel)
set_option maxRecDepth 20000 in
theorem gX12_ask_X12_sizeOf : GoodIn wsX12_ask (wsV RX12 288 RX12 yX12_sizeOf wsX12_sizeOf) := goodIn_app (goodIn_of _ (by decide +kernel)) ggX12_ask_X12_sizeOf
set_option maxRecDepth 20000 in
theorem ggX12_trace_X12_in : GoodIn wsX12_trace wsX12_in := goodIn_r _ [7] (by decide +kernel) (by decide +kernel)
set_option maxRecDepth 20000 in
theorem gX12_trace_X12_in : GoodIn wsX12_trace (va_wsS RX12 54 yX12_in wsX12_in) := goodIn_app (goodIn_of _ (by decide +kernel)) ggX12_trace_X12_in
