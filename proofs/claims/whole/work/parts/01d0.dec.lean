theorem dX12_init_0 : decode cX12_init 0 = .ok (.aload_n 0, 1) := by decide +kernel
theorem dX12_init_1 : decode cX12_init 1 = .ok (.invokespecial 1, 3) := by decide +kernel
theorem dX12_init_4 : decode cX12_init 4 = .ok (.aload_n 0, 1) := by decide +kernel
theorem dX12_init_5 : decode cX12_init 5 = .ok (.bipush 8, 2) := by decide +kernel
theorem dX12_init_7 : decode cX12_init 7 = .ok (.newarray .int, 2) := by decide +kernel
theorem dX12_init_9 : decode cX12_init 9 = .ok (.putfield 7, 3) := by decide +kernel
theorem dX12_init_12 : decode cX12_init 12 = .ok (.aload_n 0, 1) := by decide +kernel
theorem dX12_init_13 : decode cX12_init 13 = .ok (.bipush 8, 2) := by decide +kernel
theorem dX12_init_15 : decode cX12_init 15 = .ok (.newarray .int, 2) := by decide +kernel
theorem dX12_init_17 : decode cX12_init 17 = .ok (.putfield 13, 3) := by decide +kernel
theorem dX12_init_20 : decode cX12_init 20 = .ok (.aload_n 0, 1) := by decide +kernel
theorem dX12_init_21 : decode cX12_init 21 = .ok (.sipush 320, 3) := by decide +kernel
theorem dX12_init_24 : decode cX12_init 24 = .ok (.newarray .int, 2) := by decide +kernel
theorem dX12_init_26 : decode cX12_init 26 = .ok (.putfield 16, 3) := by decide +kernel
theorem dX12_init_29 : decode cX12_init 29 = .ok (.aload_n 0, 1) := by decide +kernel
theorem dX12_init_30 : decode cX12_init 30 = .ok (.sipush 400, 3) := by decide +kernel
theorem dX12_init_33 : decode cX12_init 33 = .ok (.newarray .int, 2) := by decide +kernel
theorem dX12_init_35 : decode cX12_init 35 = .ok (.putfield 19, 3) := by decide +kernel
theorem dX12_init_38 : decode cX12_init 38 = .ok (.aload_n 0, 1) := by decide +kernel
theorem dX12_init_39 : decode cX12_init 39 = .ok (.sipush 138, 3) := by decide +kernel
theorem dX12_init_42 : decode cX12_init 42 = .ok (.newarray .int, 2) := by decide +kernel
theorem dX12_init_44 : decode cX12_init 44 = .ok (.putfield 22, 3) := by decide +kernel
theorem dX12_init_47 : decode cX12_init 47 = .ok (.aload_n 0, 1) := by decide +kernel
theorem dX12_init_48 : decode cX12_init 48 = .ok (.sipush 3312, 3) := by decide +kernel
theorem dX12_init_51 : decode cX12_init 51 = .ok (.newarray .int, 2) := by decide +kernel
theorem dX12_init_53 : decode cX12_init 53 = .ok (.putfield 25, 3) := by decide +kernel
theorem dX12_init_56 : decode cX12_init 56 = .ok (.aload_n 0, 1) := by decide +kernel
theorem dX12_init_57 : decode cX12_init 57 = .ok (.sipush 276, 3) := by decide +kernel
theorem dX12_init_60 : decode cX12_init 60 = .ok (.newarray .int, 2) := by decide +kernel
theorem dX12_init_62 : decode cX12_init 62 = .ok (.putfield 28, 3) := by decide +kernel
theorem dX12_init_65 : decode cX12_init 65 = .ok (.aload_n 0, 1) := by decide +kernel
theorem dX12_init_66 : decode cX12_init 66 = .ok (.iconst 2, 1) := by decide +kernel
theorem dX12_init_67 : decode cX12_init 67 = .ok (.newarray .boolean, 2) := by decide +kernel
theorem dX12_init_69 : decode cX12_init 69 = .ok (.putfield 31, 3) := by decide +kernel
theorem dX12_init_72 : decode cX12_init 72 = .ok (.aload_n 0, 1) := by decide +kernel
theorem dX12_init_73 : decode cX12_init 73 = .ok (.bipush 16, 2) := by decide +kernel
theorem dX12_init_75 : decode cX12_init 75 = .ok (.newarray .int, 2) := by decide +kernel
theorem dX12_init_77 : decode cX12_init 77 = .ok (.putfield 35, 3) := by decide +kernel
theorem dX12_init_80 : decode cX12_init 80 = .ok (.aload_n 0, 1) := by decide +kernel
theorem dX12_init_81 : decode cX12_init 81 = .ok (.sipush 138, 3) := by decide +kernel
theorem dX12_init_84 : decode cX12_init 84 = .ok (.newarray .int, 2) := by decide +kernel
theorem dX12_init_86 : decode cX12_init 86 = .ok (.putfield 38, 3) := by decide +kernel
theorem dX12_init_89 : decode cX12_init 89 = .ok (.aload_n 0, 1) := by decide +kernel
theorem dX12_init_90 : decode cX12_init 90 = .ok (.sipush 138, 3) := by decide +kernel
theorem dX12_init_93 : decode cX12_init 93 = .ok (.newarray .int, 2) := by decide +kernel
theorem dX12_init_95 : decode cX12_init 95 = .ok (.putfield 41, 3) := by decide +kernel
theorem dX12_init_98 : decode cX12_init 98 = .ok (.aload_n 0, 1) := by decide +kernel
theorem dX12_init_99 : decode cX12_init 99 = .ok (.sipush 138, 3) := by decide +kernel
theorem dX12_init_102 : decode cX12_init 102 = .ok (.newarray .int, 2) := by decide +kernel
theorem dX12_init_104 : decode cX12_init 104 = .ok (.putfield 44, 3) := by decide +kernel
theorem dX12_init_107 : decode cX12_init 107 = .ok (.iconst 0, 1) := by decide +kernel
theorem dX12_init_108 : decode cX12_init 108 = .ok (.istore_n 1, 1) := by decide +kernel
theorem dX12_init_109 : decode cX12_init 109 = .ok (.iload_n 1, 1) := by decide +kernel
theorem dX12_init_110 : decode cX12_init 110 = .ok (.bipush 8, 2) := by decide +kernel
theorem dX12_init_112 : decode cX12_init 112 = .ok (.if_icmp .ge 16, 3) := by decide +kernel
theorem dX12_init_115 : decode cX12_init 115 = .ok (.aload_n 0, 1) := by decide +kernel
theorem dX12_init_116 : decode cX12_init 116 = .ok (.getfield 13, 3) := by decide +kernel
theorem dX12_init_119 : decode cX12_init 119 = .ok (.iload_n 1, 1) := by decide +kernel
theorem dX12_init_120 : decode cX12_init 120 = .ok (.iconst (-1), 1) := by decide +kernel
theorem dX12_init_121 : decode cX12_init 121 = .ok (.iastore, 1) := by decide +kernel
theorem dX12_init_122 : decode cX12_init 122 = .ok (.iinc 1 1, 3) := by decide +kernel
theorem dX12_init_125 : decode cX12_init 125 = .ok (.goto (-16), 3) := by decide +kernel
theorem dX12_init_128 : decode cX12_init 128 = .ok (.return_, 1) := by decide +kernel
theorem dX12_in_0 : decode cX12_in 0 = .ok (.lload_n 0, 1) := by decide +kernel
theorem dX12_in_1 : decode cX12_in 1 = .ok (.lload_n 2, 1) := by decide +kernel
theorem dX12_in_2 : decode cX12_in 2 = .ok (.lcmp, 1) := by decide +kernel
theorem dX12_in_3 : decode cX12_in 3 = .ok (.ifCond .lt 14, 3) := by decide +kernel
theorem dX12_in_6 : decode cX12_in 6 = .ok (.lload_n 0, 1) := by decide +kernel
theorem dX12_in_7 : decode cX12_in 7 = .ok (.lload 4, 2) := by decide +kernel
theorem dX12_in_9 : decode cX12_in 9 = .ok (.lcmp, 1) := by decide +kernel
theorem dX12_in_10 : decode cX12_in 10 = .ok (.ifCond .gt 7, 3) := by decide +kernel
theorem dX12_in_13 : decode cX12_in 13 = .ok (.iconst 1, 1) := by decide +kernel
theorem dX12_in_14 : decode cX12_in 14 = .ok (.goto 4, 3) := by decide +kernel
theorem dX12_in_17 : decode cX12_in 17 = .ok (.iconst 0, 1) := by decide +kernel
theorem dX12_in_18 : decode cX12_in 18 = .ok (.ireturn, 1) := by decide +kernel
theorem dX12_found_0 : decode cX12_found 0 = .ok (.aload_n 0, 1) := by decide +kernel
theorem dX12_found_1 : decode cX12_found 1 = .ok (.iload_n 1, 1) := by decide +kernel
theorem dX12_found_2 : decode cX12_found 2 = .ok (.putfield 47, 3) := by decide +kernel
theorem dX12_found_5 : decode cX12_found 5 = .ok (.ldc 51, 2) := by decide +kernel
theorem dX12_found_7 : decode cX12_found 7 = .ok (.iload_n 1, 1) := by decide +kernel
theorem dX12_found_8 : decode cX12_found 8 = .ok (.isub, 1) := by decide +kernel
theorem dX12_found_9 : decode cX12_found 9 = .ok (.ireturn, 1) := by decide +kernel
theorem dX12_well_0 : decode cX12_well 0 = .ok (.aload_n 0, 1) := by decide +kernel
theorem dX12_well_1 : decode cX12_well 1 = .ok (.iconst 0, 1) := by decide +kernel
theorem dX12_well_2 : decode cX12_well 2 = .ok (.putfield 47, 3) := by decide +kernel
theorem dX12_well_5 : decode cX12_well 5 = .ok (.iload_n 1, 1) := by decide +kernel
theorem dX12_well_6 : decode cX12_well 6 = .ok (.ireturn, 1) := by decide +kernel
theorem dX12_isRow_0 : decode cX12_isRow 0 = .ok (.iload_n 0, 1) := by decide +kernel
theorem dX12_isRow_1 : decode cX12_isRow 1 = .ok (.i2l, 1) := by decide +kernel
theorem dX12_isRow_2 : decode cX12_isRow 2 = .ok (.lconst 0, 1) := by decide +kernel
theorem dX12_isRow_3 : decode cX12_isRow 3 = .ok (.ldc2_w 52, 3) := by decide +kernel
theorem dX12_isRow_6 : decode cX12_isRow 6 = .ok (.invokestatic 54, 3) := by decide +kernel
theorem dX12_isRow_9 : decode cX12_isRow 9 = .ok (.ireturn, 1) := by decide +kernel
theorem dX12_row_0 : decode cX12_row 0 = .ok (.iload_n 1, 1) := by decide +kernel
theorem dX12_row_1 : decode cX12_row 1 = .ok (.invokestatic 58, 3) := by decide +kernel
theorem dX12_row_4 : decode cX12_row 4 = .ok (.ifCond .eq 21, 3) := by decide +kernel
theorem dX12_row_7 : decode cX12_row 7 = .ok (.iload_n 2, 1) := by decide +kernel
theorem dX12_row_8 : decode cX12_row 8 = .ok (.i2l, 1) := by decide +kernel
theorem dX12_row_9 : decode cX12_row 9 = .ok (.lconst 0, 1) := by decide +kernel
theorem dX12_row_10 : decode cX12_row 10 = .ok (.ldc2_w 62, 3) := by decide +kernel
theorem dX12_row_13 : decode cX12_row 13 = .ok (.invokestatic 54, 3) := by decide +kernel
theorem dX12_row_16 : decode cX12_row 16 = .ok (.ifCond .eq 9, 3) := by decide +kernel
theorem dX12_row_19 : decode cX12_row 19 = .ok (.iload_n 3, 1) := by decide +kernel
theorem dX12_row_20 : decode cX12_row 20 = .ok (.bipush 40, 2) := by decide +kernel
theorem dX12_row_22 : decode cX12_row 22 = .ok (.if_icmp .le 6, 3) := by decide +kernel
theorem dX12_row_25 : decode cX12_row 25 = .ok (.ldc 64, 2) := by decide +kernel
theorem dX12_row_27 : decode cX12_row 27 = .ok (.ireturn, 1) := by decide +kernel
theorem dX12_row_28 : decode cX12_row 28 = .ok (.iload_n 3, 1) := by decide +kernel
theorem dX12_row_29 : decode cX12_row 29 = .ok (.ifCond .ge 9, 3) := by decide +kernel
theorem dX12_row_32 : decode cX12_row 32 = .ok (.aload_n 0, 1) := by decide +kernel
theorem dX12_row_33 : decode cX12_row 33 = .ok (.iconst 4, 1) := by decide +kernel
theorem dX12_row_34 : decode cX12_row 34 = .ok (.invokevirtual 65, 3) := by decide +kernel
theorem dX12_row_37 : decode cX12_row 37 = .ok (.ireturn, 1) := by decide +kernel
theorem dX12_row_38 : decode cX12_row 38 = .ok (.aload_n 0, 1) := by decide +kernel
theorem dX12_row_39 : decode cX12_row 39 = .ok (.getfield 7, 3) := by decide +kernel
theorem dX12_row_42 : decode cX12_row 42 = .ok (.iload_n 1, 1) := by decide +kernel
theorem dX12_row_43 : decode cX12_row 43 = .ok (.iload_n 2, 1) := by decide +kernel
theorem dX12_row_44 : decode cX12_row 44 = .ok (.iastore, 1) := by decide +kernel
theorem dX12_row_45 : decode cX12_row 45 = .ok (.aload_n 0, 1) := by decide +kernel
theorem dX12_row_46 : decode cX12_row 46 = .ok (.getfield 13, 3) := by decide +kernel
theorem dX12_row_49 : decode cX12_row 49 = .ok (.iload_n 1, 1) := by decide +kernel
theorem dX12_row_50 : decode cX12_row 50 = .ok (.iload_n 3, 1) := by decide +kernel
theorem dX12_row_51 : decode cX12_row 51 = .ok (.iastore, 1) := by decide +kernel
theorem dX12_row_52 : decode cX12_row 52 = .ok (.iconst 0, 1) := by decide +kernel
theorem dX12_row_53 : decode cX12_row 53 = .ok (.istore 4, 2) := by decide +kernel
theorem dX12_row_55 : decode cX12_row 55 = .ok (.iload 4, 2) := by decide +kernel
theorem dX12_row_57 : decode cX12_row 57 = .ok (.bipush 40, 2) := by decide +kernel
theorem dX12_row_59 : decode cX12_row 59 = .ok (.if_icmp .ge 22, 3) := by decide +kernel
theorem dX12_row_62 : decode cX12_row 62 = .ok (.aload_n 0, 1) := by decide +kernel
theorem dX12_row_63 : decode cX12_row 63 = .ok (.getfield 16, 3) := by decide +kernel
theorem dX12_row_66 : decode cX12_row 66 = .ok (.bipush 40, 2) := by decide +kernel
theorem dX12_row_68 : decode cX12_row 68 = .ok (.iload_n 1, 1) := by decide +kernel
theorem dX12_row_69 : decode cX12_row 69 = .ok (.imul, 1) := by decide +kernel
theorem dX12_row_70 : decode cX12_row 70 = .ok (.iload 4, 2) := by decide +kernel
theorem dX12_row_72 : decode cX12_row 72 = .ok (.iadd, 1) := by decide +kernel
theorem dX12_row_73 : decode cX12_row 73 = .ok (.iconst 0, 1) := by decide +kernel
theorem dX12_row_74 : decode cX12_row 74 = .ok (.iastore, 1) := by decide +kernel
theorem dX12_row_75 : decode cX12_row 75 = .ok (.iinc 4 1, 3) := by decide +kernel
theorem dX12_row_78 : decode cX12_row 78 = .ok (.goto (-23), 3) := by decide +kernel
theorem dX12_row_81 : decode cX12_row 81 = .ok (.aload_n 0, 1) := by decide +kernel
theorem dX12_row_82 : decode cX12_row 82 = .ok (.iload_n 3, 1) := by decide +kernel
theorem dX12_row_83 : decode cX12_row 83 = .ok (.invokevirtual 69, 3) := by decide +kernel
theorem dX12_row_86 : decode cX12_row 86 = .ok (.ireturn, 1) := by decide +kernel
theorem dX12_set_0 : decode cX12_set 0 = .ok (.iload_n 1, 1) := by decide +kernel
theorem dX12_set_1 : decode cX12_set 1 = .ok (.invokestatic 58, 3) := by decide +kernel
theorem dX12_set_4 : decode cX12_set 4 = .ok (.ifCond .ne 6, 3) := by decide +kernel
theorem dX12_set_7 : decode cX12_set 7 = .ok (.ldc 64, 2) := by decide +kernel
theorem dX12_set_9 : decode cX12_set 9 = .ok (.ireturn, 1) := by decide +kernel
theorem dX12_set_10 : decode cX12_set 10 = .ok (.aload_n 0, 1) := by decide +kernel
theorem dX12_set_11 : decode cX12_set 11 = .ok (.getfield 13, 3) := by decide +kernel
theorem dX12_set_14 : decode cX12_set 14 = .ok (.iload_n 1, 1) := by decide +kernel
theorem dX12_set_15 : decode cX12_set 15 = .ok (.iaload, 1) := by decide +kernel
theorem dX12_set_16 : decode cX12_set 16 = .ok (.ifCond .ge 9, 3) := by decide +kernel
theorem dX12_set_19 : decode cX12_set 19 = .ok (.aload_n 0, 1) := by decide +kernel
theorem dX12_set_20 : decode cX12_set 20 = .ok (.iconst 1, 1) := by decide +kernel
theorem dX12_set_21 : decode cX12_set 21 = .ok (.invokevirtual 65, 3) := by decide +kernel
theorem dX12_set_24 : decode cX12_set 24 = .ok (.ireturn, 1) := by decide +kernel
theorem dX12_set_25 : decode cX12_set 25 = .ok (.iload_n 2, 1) := by decide +kernel
theorem dX12_set_26 : decode cX12_set 26 = .ok (.i2l, 1) := by decide +kernel
theorem dX12_set_27 : decode cX12_set 27 = .ok (.lconst 0, 1) := by decide +kernel
theorem dX12_set_28 : decode cX12_set 28 = .ok (.aload_n 0, 1) := by decide +kernel
theorem dX12_set_29 : decode cX12_set 29 = .ok (.getfield 13, 3) := by decide +kernel
theorem dX12_set_32 : decode cX12_set 32 = .ok (.iload_n 1, 1) := by decide +kernel
theorem dX12_set_33 : decode cX12_set 33 = .ok (.iaload, 1) := by decide +kernel
theorem dX12_set_34 : decode cX12_set 34 = .ok (.iconst 1, 1) := by decide +kernel
theorem dX12_set_35 : decode cX12_set 35 = .ok (.isub, 1) := by decide +kernel
theorem dX12_set_36 : decode cX12_set 36 = .ok (.i2l, 1) := by decide +kernel
theorem dX12_set_37 : decode cX12_set 37 = .ok (.invokestatic 54, 3) := by decide +kernel
theorem dX12_set_40 : decode cX12_set 40 = .ok (.ifCond .ne 9, 3) := by decide +kernel
theorem dX12_set_43 : decode cX12_set 43 = .ok (.aload_n 0, 1) := by decide +kernel
theorem dX12_set_44 : decode cX12_set 44 = .ok (.iconst 2, 1) := by decide +kernel
theorem dX12_set_45 : decode cX12_set 45 = .ok (.invokevirtual 65, 3) := by decide +kernel
theorem dX12_set_48 : decode cX12_set 48 = .ok (.ireturn, 1) := by decide +kernel
theorem dX12_set_49 : decode cX12_set 49 = .ok (.aload_n 0, 1) := by decide +kernel
theorem dX12_set_50 : decode cX12_set 50 = .ok (.getfield 16, 3) := by decide +kernel
theorem dX12_set_53 : decode cX12_set 53 = .ok (.bipush 40, 2) := by decide +kernel
theorem dX12_set_55 : decode cX12_set 55 = .ok (.iload_n 1, 1) := by decide +kernel
theorem dX12_set_56 : decode cX12_set 56 = .ok (.imul, 1) := by decide +kernel
theorem dX12_set_57 : decode cX12_set 57 = .ok (.iload_n 2, 1) := by decide +kernel
theorem dX12_set_58 : decode cX12_set 58 = .ok (.iadd, 1) := by decide +kernel
theorem dX12_set_59 : decode cX12_set 59 = .ok (.aload_n 0, 1) := by decide +kernel
theorem dX12_set_60 : decode cX12_set 60 = .ok (.getfield 7, 3) := by decide +kernel
theorem dX12_set_63 : decode cX12_set 63 = .ok (.iload_n 1, 1) := by decide +kernel
theorem dX12_set_64 : decode cX12_set 64 = .ok (.iaload, 1) := by decide +kernel
theorem dX12_set_65 : decode cX12_set 65 = .ok (.ifCond .ne 8, 3) := by decide +kernel
theorem dX12_set_68 : decode cX12_set 68 = .ok (.iload_n 3, 1) := by decide +kernel
theorem dX12_set_69 : decode cX12_set 69 = .ok (.i2b, 1) := by decide +kernel
theorem dX12_set_70 : decode cX12_set 70 = .ok (.goto 19, 3) := by decide +kernel
theorem dX12_set_73 : decode cX12_set 73 = .ok (.aload_n 0, 1) := by decide +kernel
theorem dX12_set_74 : decode cX12_set 74 = .ok (.getfield 7, 3) := by decide +kernel
theorem dX12_set_77 : decode cX12_set 77 = .ok (.iload_n 1, 1) := by decide +kernel
theorem dX12_set_78 : decode cX12_set 78 = .ok (.iaload, 1) := by decide +kernel
theorem dX12_set_79 : decode cX12_set 79 = .ok (.iconst 1, 1) := by decide +kernel
theorem dX12_set_80 : decode cX12_set 80 = .ok (.if_icmp .ne 8, 3) := by decide +kernel
theorem dX12_set_83 : decode cX12_set 83 = .ok (.iload_n 3, 1) := by decide +kernel
theorem dX12_set_84 : decode cX12_set 84 = .ok (.i2s, 1) := by decide +kernel
theorem dX12_set_85 : decode cX12_set 85 = .ok (.goto 4, 3) := by decide +kernel
theorem dX12_set_88 : decode cX12_set 88 = .ok (.iload_n 3, 1) := by decide +kernel
theorem dX12_set_89 : decode cX12_set 89 = .ok (.iastore, 1) := by decide +kernel
theorem dX12_set_90 : decode cX12_set 90 = .ok (.aload_n 0, 1) := by decide +kernel
theorem dX12_set_91 : decode cX12_set 91 = .ok (.aload_n 0, 1) := by decide +kernel
theorem dX12_set_92 : decode cX12_set 92 = .ok (.getfield 16, 3) := by decide +kernel
theorem dX12_set_95 : decode cX12_set 95 = .ok (.bipush 40, 2) := by decide +kernel
theorem dX12_set_97 : decode cX12_set 97 = .ok (.iload_n 1, 1) := by decide +kernel
theorem dX12_set_98 : decode cX12_set 98 = .ok (.imul, 1) := by decide +kernel
theorem dX12_set_99 : decode cX12_set 99 = .ok (.iload_n 2, 1) := by decide +kernel
theorem dX12_set_100 : decode cX12_set 100 = .ok (.iadd, 1) := by decide +kernel
theorem dX12_set_101 : decode cX12_set 101 = .ok (.iaload, 1) := by decide +kernel
theorem dX12_set_102 : decode cX12_set 102 = .ok (.invokevirtual 69, 3) := by decide +kernel
theorem dX12_set_105 : decode cX12_set 105 = .ok (.ireturn, 1) := by decide +kernel
theorem dX12_copy_0 : decode cX12_copy 0 = .ok (.iload_n 1, 1) := by decide +kernel
theorem dX12_copy_1 : decode cX12_copy 1 = .ok (.invokestatic 58, 3) := by decide +kernel
theorem dX12_copy_4 : decode cX12_copy 4 = .ok (.ifCond .eq 10, 3) := by decide +kernel
theorem dX12_copy_7 : decode cX12_copy 7 = .ok (.iload_n 3, 1) := by decide +kernel
theorem dX12_copy_8 : decode cX12_copy 8 = .ok (.invokestatic 58, 3) := by decide +kernel
theorem dX12_copy_11 : decode cX12_copy 11 = .ok (.ifCond .ne 6, 3) := by decide +kernel
theorem dX12_copy_14 : decode cX12_copy 14 = .ok (.ldc 64, 2) := by decide +kernel
theorem dX12_copy_16 : decode cX12_copy 16 = .ok (.ireturn, 1) := by decide +kernel
theorem dX12_copy_17 : decode cX12_copy 17 = .ok (.aload_n 0, 1) := by decide +kernel
theorem dX12_copy_18 : decode cX12_copy 18 = .ok (.getfield 13, 3) := by decide +kernel
theorem dX12_copy_21 : decode cX12_copy 21 = .ok (.iload_n 1, 1) := by decide +kernel
theorem dX12_copy_22 : decode cX12_copy 22 = .ok (.iaload, 1) := by decide +kernel
theorem dX12_copy_23 : decode cX12_copy 23 = .ok (.ifCond .lt 12, 3) := by decide +kernel
theorem dX12_copy_26 : decode cX12_copy 26 = .ok (.aload_n 0, 1) := by decide +kernel
theorem dX12_copy_27 : decode cX12_copy 27 = .ok (.getfield 13, 3) := by decide +kernel
theorem dX12_copy_30 : decode cX12_copy 30 = .ok (.iload_n 3, 1) := by decide +kernel
theorem dX12_copy_31 : decode cX12_copy 31 = .ok (.iaload, 1) := by decide +kernel
theorem dX12_copy_32 : decode cX12_copy 32 = .ok (.ifCond .ge 9, 3) := by decide +kernel
theorem dX12_copy_35 : decode cX12_copy 35 = .ok (.aload_n 0, 1) := by decide +kernel
theorem dX12_copy_36 : decode cX12_copy 36 = .ok (.iconst 1, 1) := by decide +kernel
theorem dX12_copy_37 : decode cX12_copy 37 = .ok (.invokevirtual 65, 3) := by decide +kernel
theorem dX12_copy_40 : decode cX12_copy 40 = .ok (.ireturn, 1) := by decide +kernel
theorem dX12_copy_41 : decode cX12_copy 41 = .ok (.aload_n 0, 1) := by decide +kernel
theorem dX12_copy_42 : decode cX12_copy 42 = .ok (.getfield 7, 3) := by decide +kernel
theorem dX12_copy_45 : decode cX12_copy 45 = .ok (.iload_n 1, 1) := by decide +kernel
theorem dX12_copy_46 : decode cX12_copy 46 = .ok (.iaload, 1) := by decide +kernel
theorem dX12_copy_47 : decode cX12_copy 47 = .ok (.aload_n 0, 1) := by decide +kernel
theorem dX12_copy_48 : decode cX12_copy 48 = .ok (.getfield 7, 3) := by decide +kernel
theorem dX12_copy_51 : decode cX12_copy 51 = .ok (.iload_n 3, 1) := by decide +kernel
theorem dX12_copy_52 : decode cX12_copy 52 = .ok (.iaload, 1) := by decide +kernel
theorem dX12_copy_53 : decode cX12_copy 53 = .ok (.if_icmp .eq 9, 3) := by decide +kernel
theorem dX12_copy_56 : decode cX12_copy 56 = .ok (.aload_n 0, 1) := by decide +kernel
theorem dX12_copy_57 : decode cX12_copy 57 = .ok (.iconst 5, 1) := by decide +kernel
theorem dX12_copy_58 : decode cX12_copy 58 = .ok (.invokevirtual 65, 3) := by decide +kernel
theorem dX12_copy_61 : decode cX12_copy 61 = .ok (.ireturn, 1) := by decide +kernel
theorem dX12_copy_62 : decode cX12_copy 62 = .ok (.iload_n 2, 1) := by decide +kernel
theorem dX12_copy_63 : decode cX12_copy 63 = .ok (.ifCond .lt 48, 3) := by decide +kernel
theorem dX12_copy_66 : decode cX12_copy 66 = .ok (.iload 4, 2) := by decide +kernel
theorem dX12_copy_68 : decode cX12_copy 68 = .ok (.ifCond .lt 43, 3) := by decide +kernel
theorem dX12_copy_71 : decode cX12_copy 71 = .ok (.iload 5, 2) := by decide +kernel
theorem dX12_copy_73 : decode cX12_copy 73 = .ok (.ifCond .lt 38, 3) := by decide +kernel
theorem dX12_copy_76 : decode cX12_copy 76 = .ok (.iload_n 2, 1) := by decide +kernel
theorem dX12_copy_77 : decode cX12_copy 77 = .ok (.i2l, 1) := by decide +kernel
theorem dX12_copy_78 : decode cX12_copy 78 = .ok (.iload 5, 2) := by decide +kernel
theorem dX12_copy_80 : decode cX12_copy 80 = .ok (.i2l, 1) := by decide +kernel
theorem dX12_copy_81 : decode cX12_copy 81 = .ok (.ladd, 1) := by decide +kernel
theorem dX12_copy_82 : decode cX12_copy 82 = .ok (.aload_n 0, 1) := by decide +kernel
theorem dX12_copy_83 : decode cX12_copy 83 = .ok (.getfield 13, 3) := by decide +kernel
theorem dX12_copy_86 : decode cX12_copy 86 = .ok (.iload_n 1, 1) := by decide +kernel
theorem dX12_copy_87 : decode cX12_copy 87 = .ok (.iaload, 1) := by decide +kernel
theorem dX12_copy_88 : decode cX12_copy 88 = .ok (.i2l, 1) := by decide +kernel
theorem dX12_copy_89 : decode cX12_copy 89 = .ok (.lcmp, 1) := by decide +kernel
theorem dX12_copy_90 : decode cX12_copy 90 = .ok (.ifCond .gt 21, 3) := by decide +kernel
theorem dX12_copy_93 : decode cX12_copy 93 = .ok (.iload 4, 2) := by decide +kernel
theorem dX12_copy_95 : decode cX12_copy 95 = .ok (.i2l, 1) := by decide +kernel
theorem dX12_copy_96 : decode cX12_copy 96 = .ok (.iload 5, 2) := by decide +kernel
theorem dX12_copy_98 : decode cX12_copy 98 = .ok (.i2l, 1) := by decide +kernel
theorem dX12_copy_99 : decode cX12_copy 99 = .ok (.ladd, 1) := by decide +kernel
theorem dX12_copy_100 : decode cX12_copy 100 = .ok (.aload_n 0, 1) := by decide +kernel
theorem dX12_copy_101 : decode cX12_copy 101 = .ok (.getfield 13, 3) := by decide +kernel
theorem dX12_copy_104 : decode cX12_copy 104 = .ok (.iload_n 3, 1) := by decide +kernel
theorem dX12_copy_105 : decode cX12_copy 105 = .ok (.iaload, 1) := by decide +kernel
theorem dX12_copy_106 : decode cX12_copy 106 = .ok (.i2l, 1) := by decide +kernel
theorem dX12_copy_107 : decode cX12_copy 107 = .ok (.lcmp, 1) := by decide +kernel
theorem dX12_copy_108 : decode cX12_copy 108 = .ok (.ifCond .le 9, 3) := by decide +kernel
theorem dX12_copy_111 : decode cX12_copy 111 = .ok (.aload_n 0, 1) := by decide +kernel
theorem dX12_copy_112 : decode cX12_copy 112 = .ok (.iconst 2, 1) := by decide +kernel
theorem dX12_copy_113 : decode cX12_copy 113 = .ok (.invokevirtual 65, 3) := by decide +kernel
theorem dX12_copy_116 : decode cX12_copy 116 = .ok (.ireturn, 1) := by decide +kernel
theorem dX12_copy_117 : decode cX12_copy 117 = .ok (.iconst 0, 1) := by decide +kernel
theorem dX12_copy_118 : decode cX12_copy 118 = .ok (.istore 6, 2) := by decide +kernel
theorem dX12_copy_120 : decode cX12_copy 120 = .ok (.iload 6, 2) := by decide +kernel
theorem dX12_copy_122 : decode cX12_copy 122 = .ok (.iload 5, 2) := by decide +kernel
theorem dX12_copy_124 : decode cX12_copy 124 = .ok (.if_icmp .ge 58, 3) := by decide +kernel
theorem dX12_copy_127 : decode cX12_copy 127 = .ok (.iload 4, 2) := by decide +kernel
theorem dX12_copy_129 : decode cX12_copy 129 = .ok (.iload_n 2, 1) := by decide +kernel
theorem dX12_copy_130 : decode cX12_copy 130 = .ok (.if_icmp .le 13, 3) := by decide +kernel
theorem dX12_copy_133 : decode cX12_copy 133 = .ok (.iload 5, 2) := by decide +kernel
theorem dX12_copy_135 : decode cX12_copy 135 = .ok (.iconst 1, 1) := by decide +kernel
theorem dX12_copy_136 : decode cX12_copy 136 = .ok (.isub, 1) := by decide +kernel
theorem dX12_copy_137 : decode cX12_copy 137 = .ok (.iload 6, 2) := by decide +kernel
theorem dX12_copy_139 : decode cX12_copy 139 = .ok (.isub, 1) := by decide +kernel
theorem dX12_copy_140 : decode cX12_copy 140 = .ok (.goto 5, 3) := by decide +kernel
theorem dX12_copy_143 : decode cX12_copy 143 = .ok (.iload 6, 2) := by decide +kernel
theorem dX12_copy_145 : decode cX12_copy 145 = .ok (.istore 7, 2) := by decide +kernel
theorem dX12_copy_147 : decode cX12_copy 147 = .ok (.aload_n 0, 1) := by decide +kernel
theorem dX12_copy_148 : decode cX12_copy 148 = .ok (.getfield 16, 3) := by decide +kernel
theorem dX12_copy_151 : decode cX12_copy 151 = .ok (.bipush 40, 2) := by decide +kernel
theorem dX12_copy_153 : decode cX12_copy 153 = .ok (.iload_n 3, 1) := by decide +kernel
theorem dX12_copy_154 : decode cX12_copy 154 = .ok (.imul, 1) := by decide +kernel
theorem dX12_copy_155 : decode cX12_copy 155 = .ok (.iload 4, 2) := by decide +kernel
theorem dX12_copy_157 : decode cX12_copy 157 = .ok (.iadd, 1) := by decide +kernel
theorem dX12_copy_158 : decode cX12_copy 158 = .ok (.iload 7, 2) := by decide +kernel
theorem dX12_copy_160 : decode cX12_copy 160 = .ok (.iadd, 1) := by decide +kernel
theorem dX12_copy_161 : decode cX12_copy 161 = .ok (.aload_n 0, 1) := by decide +kernel
theorem dX12_copy_162 : decode cX12_copy 162 = .ok (.getfield 16, 3) := by decide +kernel
theorem dX12_copy_165 : decode cX12_copy 165 = .ok (.bipush 40, 2) := by decide +kernel
theorem dX12_copy_167 : decode cX12_copy 167 = .ok (.iload_n 1, 1) := by decide +kernel
theorem dX12_copy_168 : decode cX12_copy 168 = .ok (.imul, 1) := by decide +kernel
theorem dX12_copy_169 : decode cX12_copy 169 = .ok (.iload_n 2, 1) := by decide +kernel
theorem dX12_copy_170 : decode cX12_copy 170 = .ok (.iadd, 1) := by decide +kernel
theorem dX12_copy_171 : decode cX12_copy 171 = .ok (.iload 7, 2) := by decide +kernel
theorem dX12_copy_173 : decode cX12_copy 173 = .ok (.iadd, 1) := by decide +kernel
theorem dX12_copy_174 : decode cX12_copy 174 = .ok (.iaload, 1) := by decide +kernel
theorem dX12_copy_175 : decode cX12_copy 175 = .ok (.iastore, 1) := by decide +kernel
theorem dX12_copy_176 : decode cX12_copy 176 = .ok (.iinc 6 1, 3) := by decide +kernel
theorem dX12_copy_179 : decode cX12_copy 179 = .ok (.goto (-59), 3) := by decide +kernel
theorem dX12_copy_182 : decode cX12_copy 182 = .ok (.aload_n 0, 1) := by decide +kernel
theorem dX12_copy_183 : decode cX12_copy 183 = .ok (.iload 5, 2) := by decide +kernel
theorem dX12_copy_185 : decode cX12_copy 185 = .ok (.invokevirtual 69, 3) := by decide +kernel
theorem dX12_copy_188 : decode cX12_copy 188 = .ok (.ireturn, 1) := by decide +kernel
theorem dX12_drop_0 : decode cX12_drop 0 = .ok (.iload_n 1, 1) := by decide +kernel
theorem dX12_drop_1 : decode cX12_drop 1 = .ok (.invokestatic 58, 3) := by decide +kernel
theorem dX12_drop_4 : decode cX12_drop 4 = .ok (.ifCond .ne 6, 3) := by decide +kernel
theorem dX12_drop_7 : decode cX12_drop 7 = .ok (.ldc 64, 2) := by decide +kernel
theorem dX12_drop_9 : decode cX12_drop 9 = .ok (.ireturn, 1) := by decide +kernel
theorem dX12_drop_10 : decode cX12_drop 10 = .ok (.aload_n 0, 1) := by decide +kernel
theorem dX12_drop_11 : decode cX12_drop 11 = .ok (.getfield 13, 3) := by decide +kernel
theorem dX12_drop_14 : decode cX12_drop 14 = .ok (.iload_n 1, 1) := by decide +kernel
theorem dX12_drop_15 : decode cX12_drop 15 = .ok (.iaload, 1) := by decide +kernel
theorem dX12_drop_16 : decode cX12_drop 16 = .ok (.ifCond .ge 9, 3) := by decide +kernel
theorem dX12_drop_19 : decode cX12_drop 19 = .ok (.aload_n 0, 1) := by decide +kernel
theorem dX12_drop_20 : decode cX12_drop 20 = .ok (.iconst 1, 1) := by decide +kernel
theorem dX12_drop_21 : decode cX12_drop 21 = .ok (.invokevirtual 65, 3) := by decide +kernel
theorem dX12_drop_24 : decode cX12_drop 24 = .ok (.ireturn, 1) := by decide +kernel
theorem dX12_drop_25 : decode cX12_drop 25 = .ok (.aload_n 0, 1) := by decide +kernel
theorem dX12_drop_26 : decode cX12_drop 26 = .ok (.getfield 13, 3) := by decide +kernel
theorem dX12_drop_29 : decode cX12_drop 29 = .ok (.iload_n 1, 1) := by decide +kernel
theorem dX12_drop_30 : decode cX12_drop 30 = .ok (.iaload, 1) := by decide +kernel
theorem dX12_drop_31 : decode cX12_drop 31 = .ok (.istore_n 2, 1) := by decide +kernel
theorem dX12_drop_32 : decode cX12_drop 32 = .ok (.aload_n 0, 1) := by decide +kernel
theorem dX12_drop_33 : decode cX12_drop 33 = .ok (.getfield 13, 3) := by decide +kernel
theorem dX12_drop_36 : decode cX12_drop 36 = .ok (.iload_n 1, 1) := by decide +kernel
theorem dX12_drop_37 : decode cX12_drop 37 = .ok (.iconst (-1), 1) := by decide +kernel
theorem dX12_drop_38 : decode cX12_drop 38 = .ok (.iastore, 1) := by decide +kernel
theorem dX12_drop_39 : decode cX12_drop 39 = .ok (.aload_n 0, 1) := by decide +kernel
theorem dX12_drop_40 : decode cX12_drop 40 = .ok (.iload_n 2, 1) := by decide +kernel
theorem dX12_drop_41 : decode cX12_drop 41 = .ok (.invokevirtual 69, 3) := by decide +kernel
theorem dX12_drop_44 : decode cX12_drop 44 = .ok (.ireturn, 1) := by decide +kernel
theorem dX12_feed_0 : decode cX12_feed 0 = .ok (.iload_n 3, 1) := by decide +kernel
theorem dX12_feed_1 : decode cX12_feed 1 = .ok (.i2l, 1) := by decide +kernel
theorem dX12_feed_2 : decode cX12_feed 2 = .ok (.lconst 1, 1) := by decide +kernel
theorem dX12_feed_3 : decode cX12_feed 3 = .ok (.ldc2_w 72, 3) := by decide +kernel
theorem dX12_feed_6 : decode cX12_feed 6 = .ok (.invokestatic 54, 3) := by decide +kernel
theorem dX12_feed_9 : decode cX12_feed 9 = .ok (.ifCond .ne 6, 3) := by decide +kernel
theorem dX12_feed_12 : decode cX12_feed 12 = .ok (.ldc 64, 2) := by decide +kernel
theorem dX12_feed_14 : decode cX12_feed 14 = .ok (.ireturn, 1) := by decide +kernel
theorem dX12_feed_15 : decode cX12_feed 15 = .ok (.aload_n 0, 1) := by decide +kernel
theorem dX12_feed_16 : decode cX12_feed 16 = .ok (.getfield 74, 3) := by decide +kernel
theorem dX12_feed_19 : decode cX12_feed 19 = .ok (.iload_n 3, 1) := by decide +kernel
theorem dX12_feed_20 : decode cX12_feed 20 = .ok (.iadd, 1) := by decide +kernel
theorem dX12_feed_21 : decode cX12_feed 21 = .ok (.sipush 400, 3) := by decide +kernel
theorem dX12_feed_24 : decode cX12_feed 24 = .ok (.if_icmp .le 6, 3) := by decide +kernel
theorem dX12_feed_27 : decode cX12_feed 27 = .ok (.ldc 77, 2) := by decide +kernel
theorem dX12_feed_29 : decode cX12_feed 29 = .ok (.ireturn, 1) := by decide +kernel
theorem dX12_feed_30 : decode cX12_feed 30 = .ok (.iload_n 3, 1) := by decide +kernel
theorem dX12_feed_31 : decode cX12_feed 31 = .ok (.iconst 1, 1) := by decide +kernel
theorem dX12_feed_32 : decode cX12_feed 32 = .ok (.isub, 1) := by decide +kernel
theorem dX12_feed_33 : decode cX12_feed 33 = .ok (.istore 4, 2) := by decide +kernel
theorem dX12_feed_35 : decode cX12_feed 35 = .ok (.iload 4, 2) := by decide +kernel
theorem dX12_feed_37 : decode cX12_feed 37 = .ok (.ifCond .lt 40, 3) := by decide +kernel
theorem dX12_feed_40 : decode cX12_feed 40 = .ok (.aload_n 0, 1) := by decide +kernel
theorem dX12_feed_41 : decode cX12_feed 41 = .ok (.getfield 19, 3) := by decide +kernel
theorem dX12_feed_44 : decode cX12_feed 44 = .ok (.aload_n 0, 1) := by decide +kernel
theorem dX12_feed_45 : decode cX12_feed 45 = .ok (.getfield 74, 3) := by decide +kernel
theorem dX12_feed_48 : decode cX12_feed 48 = .ok (.lload_n 1, 1) := by decide +kernel
theorem dX12_feed_49 : decode cX12_feed 49 = .ok (.bipush 8, 2) := by decide +kernel
theorem dX12_feed_51 : decode cX12_feed 51 = .ok (.iload 4, 2) := by decide +kernel
theorem dX12_feed_53 : decode cX12_feed 53 = .ok (.imul, 1) := by decide +kernel
theorem dX12_feed_54 : decode cX12_feed 54 = .ok (.lshr, 1) := by decide +kernel
theorem dX12_feed_55 : decode cX12_feed 55 = .ok (.ldc2_w 78, 3) := by decide +kernel
theorem dX12_feed_58 : decode cX12_feed 58 = .ok (.land, 1) := by decide +kernel
theorem dX12_feed_59 : decode cX12_feed 59 = .ok (.l2i, 1) := by decide +kernel
theorem dX12_feed_60 : decode cX12_feed 60 = .ok (.iastore, 1) := by decide +kernel
theorem dX12_feed_61 : decode cX12_feed 61 = .ok (.aload_n 0, 1) := by decide +kernel
theorem dX12_feed_62 : decode cX12_feed 62 = .ok (.dup, 1) := by decide +kernel
theorem dX12_feed_63 : decode cX12_feed 63 = .ok (.getfield 74, 3) := by decide +kernel
theorem dX12_feed_66 : decode cX12_feed 66 = .ok (.iconst 1, 1) := by decide +kernel
theorem dX12_feed_67 : decode cX12_feed 67 = .ok (.iadd, 1) := by decide +kernel
theorem dX12_feed_68 : decode cX12_feed 68 = .ok (.putfield 74, 3) := by decide +kernel
theorem dX12_feed_71 : decode cX12_feed 71 = .ok (.iinc 4 (-1), 3) := by decide +kernel
theorem dX12_feed_74 : decode cX12_feed 74 = .ok (.goto (-39), 3) := by decide +kernel
theorem dX12_feed_77 : decode cX12_feed 77 = .ok (.aload_n 0, 1) := by decide +kernel
theorem dX12_feed_78 : decode cX12_feed 78 = .ok (.getfield 74, 3) := by decide +kernel
theorem dX12_feed_81 : decode cX12_feed 81 = .ok (.ireturn, 1) := by decide +kernel
theorem dX12_sort_0 : decode cX12_sort 0 = .ok (.iload_n 0, 1) := by decide +kernel
theorem dX12_sort_1 : decode cX12_sort 1 = .ok (.i2l, 1) := by decide +kernel
theorem dX12_sort_2 : decode cX12_sort 2 = .ok (.ldc2_w 80, 3) := by decide +kernel
theorem dX12_sort_5 : decode cX12_sort 5 = .ok (.ldc2_w 82, 3) := by decide +kernel
theorem dX12_sort_8 : decode cX12_sort 8 = .ok (.invokestatic 54, 3) := by decide +kernel
theorem dX12_sort_11 : decode cX12_sort 11 = .ok (.ifCond .eq 7, 3) := by decide +kernel
theorem dX12_sort_14 : decode cX12_sort 14 = .ok (.iconst 1, 1) := by decide +kernel
theorem dX12_sort_15 : decode cX12_sort 15 = .ok (.goto 32, 3) := by decide +kernel
theorem dX12_sort_18 : decode cX12_sort 18 = .ok (.iload_n 0, 1) := by decide +kernel
theorem dX12_sort_19 : decode cX12_sort 19 = .ok (.i2l, 1) := by decide +kernel
theorem dX12_sort_20 : decode cX12_sort 20 = .ok (.ldc2_w 84, 3) := by decide +kernel
theorem dX12_sort_23 : decode cX12_sort 23 = .ok (.ldc2_w 86, 3) := by decide +kernel
theorem dX12_sort_26 : decode cX12_sort 26 = .ok (.invokestatic 54, 3) := by decide +kernel
theorem dX12_sort_29 : decode cX12_sort 29 = .ok (.ifCond .eq 7, 3) := by decide +kernel
theorem dX12_sort_32 : decode cX12_sort 32 = .ok (.iconst 2, 1) := by decide +kernel
theorem dX12_sort_33 : decode cX12_sort 33 = .ok (.goto 14, 3) := by decide +kernel
theorem dX12_sort_36 : decode cX12_sort 36 = .ok (.iload_n 0, 1) := by decide +kernel
theorem dX12_sort_37 : decode cX12_sort 37 = .ok (.bipush 59, 2) := by decide +kernel
theorem dX12_sort_39 : decode cX12_sort 39 = .ok (.if_icmp .ne 7, 3) := by decide +kernel
theorem dX12_sort_42 : decode cX12_sort 42 = .ok (.iconst 3, 1) := by decide +kernel
theorem dX12_sort_43 : decode cX12_sort 43 = .ok (.goto 4, 3) := by decide +kernel
theorem dX12_sort_46 : decode cX12_sort 46 = .ok (.iconst 4, 1) := by decide +kernel
theorem dX12_sort_47 : decode cX12_sort 47 = .ok (.ireturn, 1) := by decide +kernel
theorem dX12_next_0 : decode cX12_next 0 = .ok (.aload_n 0, 1) := by decide +kernel
theorem dX12_next_1 : decode cX12_next 1 = .ok (.getfield 88, 3) := by decide +kernel
theorem dX12_next_4 : decode cX12_next 4 = .ok (.aload_n 0, 1) := by decide +kernel
theorem dX12_next_5 : decode cX12_next 5 = .ok (.getfield 91, 3) := by decide +kernel
theorem dX12_next_8 : decode cX12_next 8 = .ok (.if_icmp .ge 44, 3) := by decide +kernel
theorem dX12_next_11 : decode cX12_next 11 = .ok (.aload_n 0, 1) := by decide +kernel
theorem dX12_next_12 : decode cX12_next 12 = .ok (.getfield 19, 3) := by decide +kernel
theorem dX12_next_15 : decode cX12_next 15 = .ok (.aload_n 0, 1) := by decide +kernel
theorem dX12_next_16 : decode cX12_next 16 = .ok (.getfield 88, 3) := by decide +kernel
theorem dX12_next_19 : decode cX12_next 19 = .ok (.iaload, 1) := by decide +kernel
theorem dX12_next_20 : decode cX12_next 20 = .ok (.bipush 32, 2) := by decide +kernel
theorem dX12_next_22 : decode cX12_next 22 = .ok (.if_icmp .eq 17, 3) := by decide +kernel
theorem dX12_next_25 : decode cX12_next 25 = .ok (.aload_n 0, 1) := by decide +kernel
theorem dX12_next_26 : decode cX12_next 26 = .ok (.getfield 19, 3) := by decide +kernel
theorem dX12_next_29 : decode cX12_next 29 = .ok (.aload_n 0, 1) := by decide +kernel
theorem dX12_next_30 : decode cX12_next 30 = .ok (.getfield 88, 3) := by decide +kernel
theorem dX12_next_33 : decode cX12_next 33 = .ok (.iaload, 1) := by decide +kernel
theorem dX12_next_34 : decode cX12_next 34 = .ok (.bipush 10, 2) := by decide +kernel
theorem dX12_next_36 : decode cX12_next 36 = .ok (.if_icmp .ne 16, 3) := by decide +kernel
theorem dX12_next_39 : decode cX12_next 39 = .ok (.aload_n 0, 1) := by decide +kernel
theorem dX12_next_40 : decode cX12_next 40 = .ok (.dup, 1) := by decide +kernel
theorem dX12_next_41 : decode cX12_next 41 = .ok (.getfield 88, 3) := by decide +kernel
theorem dX12_next_44 : decode cX12_next 44 = .ok (.iconst 1, 1) := by decide +kernel
theorem dX12_next_45 : decode cX12_next 45 = .ok (.iadd, 1) := by decide +kernel
theorem dX12_next_46 : decode cX12_next 46 = .ok (.putfield 88, 3) := by decide +kernel
theorem dX12_next_49 : decode cX12_next 49 = .ok (.goto (-49), 3) := by decide +kernel
theorem dX12_next_52 : decode cX12_next 52 = .ok (.aload_n 0, 1) := by decide +kernel
theorem dX12_next_53 : decode cX12_next 53 = .ok (.aload_n 0, 1) := by decide +kernel
theorem dX12_next_54 : decode cX12_next 54 = .ok (.getfield 88, 3) := by decide +kernel
theorem dX12_next_57 : decode cX12_next 57 = .ok (.putfield 94, 3) := by decide +kernel
theorem dX12_next_60 : decode cX12_next 60 = .ok (.aload_n 0, 1) := by decide +kernel
theorem dX12_next_61 : decode cX12_next 61 = .ok (.aload_n 0, 1) := by decide +kernel
theorem dX12_next_62 : decode cX12_next 62 = .ok (.getfield 88, 3) := by decide +kernel
theorem dX12_next_65 : decode cX12_next 65 = .ok (.aload_n 0, 1) := by decide +kernel
theorem dX12_next_66 : decode cX12_next 66 = .ok (.getfield 91, 3) := by decide +kernel
theorem dX12_next_69 : decode cX12_next 69 = .ok (.if_icmp .ge 18, 3) := by decide +kernel
theorem dX12_next_72 : decode cX12_next 72 = .ok (.aload_n 0, 1) := by decide +kernel
theorem dX12_next_73 : decode cX12_next 73 = .ok (.getfield 19, 3) := by decide +kernel
theorem dX12_next_76 : decode cX12_next 76 = .ok (.aload_n 0, 1) := by decide +kernel
theorem dX12_next_77 : decode cX12_next 77 = .ok (.getfield 88, 3) := by decide +kernel
theorem dX12_next_80 : decode cX12_next 80 = .ok (.iaload, 1) := by decide +kernel
theorem dX12_next_81 : decode cX12_next 81 = .ok (.invokestatic 97, 3) := by decide +kernel
theorem dX12_next_84 : decode cX12_next 84 = .ok (.goto 4, 3) := by decide +kernel
theorem dX12_next_87 : decode cX12_next 87 = .ok (.iconst 0, 1) := by decide +kernel
theorem dX12_next_88 : decode cX12_next 88 = .ok (.putfield 100, 3) := by decide +kernel
theorem dX12_next_91 : decode cX12_next 91 = .ok (.aload_n 0, 1) := by decide +kernel
theorem dX12_next_92 : decode cX12_next 92 = .ok (.lconst 0, 1) := by decide +kernel
theorem dX12_next_93 : decode cX12_next 93 = .ok (.putfield 103, 3) := by decide +kernel
theorem dX12_next_96 : decode cX12_next 96 = .ok (.aload_n 0, 1) := by decide +kernel
theorem dX12_next_97 : decode cX12_next 97 = .ok (.dup, 1) := by decide +kernel
theorem dX12_next_98 : decode cX12_next 98 = .ok (.getfield 88, 3) := by decide +kernel
theorem dX12_next_101 : decode cX12_next 101 = .ok (.aload_n 0, 1) := by decide +kernel
theorem dX12_next_102 : decode cX12_next 102 = .ok (.getfield 100, 3) := by decide +kernel
theorem dX12_next_105 : decode cX12_next 105 = .ok (.iconst 2, 1) := by decide +kernel
theorem dX12_next_106 : decode cX12_next 106 = .ok (.if_icmp .le 7, 3) := by decide +kernel
theorem dX12_next_109 : decode cX12_next 109 = .ok (.iconst 1, 1) := by decide +kernel
theorem dX12_next_110 : decode cX12_next 110 = .ok (.goto 4, 3) := by decide +kernel
theorem dX12_next_113 : decode cX12_next 113 = .ok (.iconst 0, 1) := by decide +kernel
theorem dX12_next_114 : decode cX12_next 114 = .ok (.iadd, 1) := by decide +kernel
theorem dX12_next_115 : decode cX12_next 115 = .ok (.putfield 88, 3) := by decide +kernel
theorem dX12_next_118 : decode cX12_next 118 = .ok (.aload_n 0, 1) := by decide +kernel
theorem dX12_next_119 : decode cX12_next 119 = .ok (.getfield 100, 3) := by decide +kernel
theorem dX12_next_122 : decode cX12_next 122 = .ok (.ifCond .le 129, 3) := by decide +kernel
theorem dX12_next_125 : decode cX12_next 125 = .ok (.aload_n 0, 1) := by decide +kernel
theorem dX12_next_126 : decode cX12_next 126 = .ok (.getfield 100, 3) := by decide +kernel
theorem dX12_next_129 : decode cX12_next 129 = .ok (.iconst 3, 1) := by decide +kernel
theorem dX12_next_130 : decode cX12_next 130 = .ok (.if_icmp .ge 121, 3) := by decide +kernel
theorem dX12_next_133 : decode cX12_next 133 = .ok (.aload_n 0, 1) := by decide +kernel
theorem dX12_next_134 : decode cX12_next 134 = .ok (.getfield 88, 3) := by decide +kernel
theorem dX12_next_137 : decode cX12_next 137 = .ok (.aload_n 0, 1) := by decide +kernel
theorem dX12_next_138 : decode cX12_next 138 = .ok (.getfield 91, 3) := by decide +kernel
theorem dX12_next_141 : decode cX12_next 141 = .ok (.if_icmp .ge 110, 3) := by decide +kernel
theorem dX12_next_144 : decode cX12_next 144 = .ok (.aload_n 0, 1) := by decide +kernel
theorem dX12_next_145 : decode cX12_next 145 = .ok (.getfield 19, 3) := by decide +kernel
theorem dX12_next_148 : decode cX12_next 148 = .ok (.aload_n 0, 1) := by decide +kernel
theorem dX12_next_149 : decode cX12_next 149 = .ok (.getfield 88, 3) := by decide +kernel
theorem dX12_next_152 : decode cX12_next 152 = .ok (.iaload, 1) := by decide +kernel
theorem dX12_next_153 : decode cX12_next 153 = .ok (.invokestatic 97, 3) := by decide +kernel
theorem dX12_next_156 : decode cX12_next 156 = .ok (.aload_n 0, 1) := by decide +kernel
theorem dX12_next_157 : decode cX12_next 157 = .ok (.getfield 100, 3) := by decide +kernel
theorem dX12_next_160 : decode cX12_next 160 = .ok (.if_icmp .ne 91, 3) := by decide +kernel
theorem dX12_next_163 : decode cX12_next 163 = .ok (.aload_n 0, 1) := by decide +kernel
theorem dX12_next_164 : decode cX12_next 164 = .ok (.getfield 19, 3) := by decide +kernel
theorem dX12_next_167 : decode cX12_next 167 = .ok (.aload_n 0, 1) := by decide +kernel
theorem dX12_next_168 : decode cX12_next 168 = .ok (.getfield 88, 3) := by decide +kernel
theorem dX12_next_171 : decode cX12_next 171 = .ok (.iaload, 1) := by decide +kernel
theorem dX12_next_172 : decode cX12_next 172 = .ok (.istore_n 1, 1) := by decide +kernel
theorem dX12_next_173 : decode cX12_next 173 = .ok (.aload_n 0, 1) := by decide +kernel
theorem dX12_next_174 : decode cX12_next 174 = .ok (.aload_n 0, 1) := by decide +kernel
theorem dX12_next_175 : decode cX12_next 175 = .ok (.getfield 88, 3) := by decide +kernel
theorem dX12_next_178 : decode cX12_next 178 = .ok (.aload_n 0, 1) := by decide +kernel
theorem dX12_next_179 : decode cX12_next 179 = .ok (.getfield 94, 3) := by decide +kernel
theorem dX12_next_182 : decode cX12_next 182 = .ok (.isub, 1) := by decide +kernel
theorem dX12_next_183 : decode cX12_next 183 = .ok (.bipush 7, 2) := by decide +kernel
theorem dX12_next_185 : decode cX12_next 185 = .ok (.if_icmp .le 9, 3) := by decide +kernel
theorem dX12_next_188 : decode cX12_next 188 = .ok (.ldc2_w 107, 3) := by decide +kernel
theorem dX12_next_191 : decode cX12_next 191 = .ok (.goto 44, 3) := by decide +kernel
theorem dX12_next_194 : decode cX12_next 194 = .ok (.aload_n 0, 1) := by decide +kernel
theorem dX12_next_195 : decode cX12_next 195 = .ok (.getfield 100, 3) := by decide +kernel
theorem dX12_next_198 : decode cX12_next 198 = .ok (.iconst 1, 1) := by decide +kernel
theorem dX12_next_199 : decode cX12_next 199 = .ok (.if_icmp .ne 21, 3) := by decide +kernel
theorem dX12_next_202 : decode cX12_next 202 = .ok (.ldc2_w 109, 3) := by decide +kernel
theorem dX12_next_205 : decode cX12_next 205 = .ok (.aload_n 0, 1) := by decide +kernel
theorem dX12_next_206 : decode cX12_next 206 = .ok (.getfield 103, 3) := by decide +kernel
theorem dX12_next_209 : decode cX12_next 209 = .ok (.lmul, 1) := by decide +kernel
theorem dX12_next_210 : decode cX12_next 210 = .ok (.iload_n 1, 1) := by decide +kernel
theorem dX12_next_211 : decode cX12_next 211 = .ok (.i2l, 1) := by decide +kernel
theorem dX12_next_212 : decode cX12_next 212 = .ok (.ladd, 1) := by decide +kernel
theorem dX12_next_213 : decode cX12_next 213 = .ok (.ldc2_w 111, 3) := by decide +kernel
theorem dX12_next_216 : decode cX12_next 216 = .ok (.lsub, 1) := by decide +kernel
theorem dX12_next_217 : decode cX12_next 217 = .ok (.goto 18, 3) := by decide +kernel
theorem dX12_next_220 : decode cX12_next 220 = .ok (.ldc2_w 113, 3) := by decide +kernel
theorem dX12_next_223 : decode cX12_next 223 = .ok (.aload_n 0, 1) := by decide +kernel
theorem dX12_next_224 : decode cX12_next 224 = .ok (.getfield 103, 3) := by decide +kernel
theorem dX12_next_227 : decode cX12_next 227 = .ok (.lmul, 1) := by decide +kernel
theorem dX12_next_228 : decode cX12_next 228 = .ok (.iload_n 1, 1) := by decide +kernel
theorem dX12_next_229 : decode cX12_next 229 = .ok (.i2l, 1) := by decide +kernel
theorem dX12_next_230 : decode cX12_next 230 = .ok (.ladd, 1) := by decide +kernel
theorem dX12_next_231 : decode cX12_next 231 = .ok (.ldc2_w 84, 3) := by decide +kernel
theorem dX12_next_234 : decode cX12_next 234 = .ok (.lsub, 1) := by decide +kernel
theorem dX12_next_235 : decode cX12_next 235 = .ok (.putfield 103, 3) := by decide +kernel
theorem dX12_next_238 : decode cX12_next 238 = .ok (.aload_n 0, 1) := by decide +kernel
theorem dX12_next_239 : decode cX12_next 239 = .ok (.dup, 1) := by decide +kernel
theorem dX12_next_240 : decode cX12_next 240 = .ok (.getfield 88, 3) := by decide +kernel
theorem dX12_next_243 : decode cX12_next 243 = .ok (.iconst 1, 1) := by decide +kernel
theorem dX12_next_244 : decode cX12_next 244 = .ok (.iadd, 1) := by decide +kernel
theorem dX12_next_245 : decode cX12_next 245 = .ok (.putfield 88, 3) := by decide +kernel
theorem dX12_next_248 : decode cX12_next 248 = .ok (.goto (-130), 3) := by decide +kernel
theorem dX12_next_251 : decode cX12_next 251 = .ok (.aload_n 0, 1) := by decide +kernel
theorem dX12_next_252 : decode cX12_next 252 = .ok (.aload_n 0, 1) := by decide +kernel
theorem dX12_next_253 : decode cX12_next 253 = .ok (.getfield 100, 3) := by decide +kernel
theorem dX12_next_256 : decode cX12_next 256 = .ok (.iconst 2, 1) := by decide +kernel
theorem dX12_next_257 : decode cX12_next 257 = .ok (.if_icmp .ne 20, 3) := by decide +kernel
theorem dX12_next_260 : decode cX12_next 260 = .ok (.aload_n 0, 1) := by decide +kernel
theorem dX12_next_261 : decode cX12_next 261 = .ok (.getfield 88, 3) := by decide +kernel
theorem dX12_next_264 : decode cX12_next 264 = .ok (.aload_n 0, 1) := by decide +kernel
theorem dX12_next_265 : decode cX12_next 265 = .ok (.getfield 94, 3) := by decide +kernel
theorem dX12_next_268 : decode cX12_next 268 = .ok (.isub, 1) := by decide +kernel
theorem dX12_next_269 : decode cX12_next 269 = .ok (.iconst 3, 1) := by decide +kernel
theorem dX12_next_270 : decode cX12_next 270 = .ok (.if_icmp .le 7, 3) := by decide +kernel
theorem dX12_next_273 : decode cX12_next 273 = .ok (.iconst 4, 1) := by decide +kernel
theorem dX12_next_274 : decode cX12_next 274 = .ok (.goto 7, 3) := by decide +kernel
theorem dX12_next_277 : decode cX12_next 277 = .ok (.aload_n 0, 1) := by decide +kernel
theorem dX12_next_278 : decode cX12_next 278 = .ok (.getfield 100, 3) := by decide +kernel
theorem dX12_next_281 : decode cX12_next 281 = .ok (.putfield 100, 3) := by decide +kernel
theorem dX12_next_284 : decode cX12_next 284 = .ok (.return_, 1) := by decide +kernel
theorem dX12_number_0 : decode cX12_number 0 = .ok (.aload_n 0, 1) := by decide +kernel
theorem dX12_number_1 : decode cX12_number 1 = .ok (.invokevirtual 115, 3) := by decide +kernel
theorem dX12_number_4 : decode cX12_number 4 = .ok (.aload_n 0, 1) := by decide +kernel
theorem dX12_number_5 : decode cX12_number 5 = .ok (.getfield 100, 3) := by decide +kernel
theorem dX12_number_8 : decode cX12_number 8 = .ok (.iconst 2, 1) := by decide +kernel
theorem dX12_number_9 : decode cX12_number 9 = .ok (.if_icmp .eq 10, 3) := by decide +kernel
theorem dX12_number_12 : decode cX12_number 12 = .ok (.aload_n 0, 1) := by decide +kernel
theorem dX12_number_13 : decode cX12_number 13 = .ok (.iconst 1, 1) := by decide +kernel
theorem dX12_number_14 : decode cX12_number 14 = .ok (.putfield 118, 3) := by decide +kernel
theorem dX12_number_17 : decode cX12_number 17 = .ok (.iconst 0, 1) := by decide +kernel
theorem dX12_number_18 : decode cX12_number 18 = .ok (.ireturn, 1) := by decide +kernel
theorem dX12_number_19 : decode cX12_number 19 = .ok (.aload_n 0, 1) := by decide +kernel
theorem dX12_number_20 : decode cX12_number 20 = .ok (.getfield 103, 3) := by decide +kernel
theorem dX12_number_23 : decode cX12_number 23 = .ok (.iload_n 1, 1) := by decide +kernel
theorem dX12_number_24 : decode cX12_number 24 = .ok (.i2l, 1) := by decide +kernel
theorem dX12_number_25 : decode cX12_number 25 = .ok (.iload_n 2, 1) := by decide +kernel
theorem dX12_number_26 : decode cX12_number 26 = .ok (.i2l, 1) := by decide +kernel
theorem dX12_number_27 : decode cX12_number 27 = .ok (.invokestatic 54, 3) := by decide +kernel
theorem dX12_number_30 : decode cX12_number 30 = .ok (.ifCond .ne 10, 3) := by decide +kernel
theorem dX12_number_33 : decode cX12_number 33 = .ok (.aload_n 0, 1) := by decide +kernel
theorem dX12_number_34 : decode cX12_number 34 = .ok (.iconst 2, 1) := by decide +kernel
theorem dX12_number_35 : decode cX12_number 35 = .ok (.putfield 118, 3) := by decide +kernel
theorem dX12_number_38 : decode cX12_number 38 = .ok (.iconst 0, 1) := by decide +kernel
theorem dX12_number_39 : decode cX12_number 39 = .ok (.ireturn, 1) := by decide +kernel
theorem dX12_number_40 : decode cX12_number 40 = .ok (.iconst 1, 1) := by decide +kernel
theorem dX12_number_41 : decode cX12_number 41 = .ok (.ireturn, 1) := by decide +kernel
theorem dX12_mustBe_0 : decode cX12_mustBe 0 = .ok (.aload_n 0, 1) := by decide +kernel
theorem dX12_mustBe_1 : decode cX12_mustBe 1 = .ok (.iload_n 1, 1) := by decide +kernel
theorem dX12_mustBe_2 : decode cX12_mustBe 2 = .ok (.ifCond .eq 10, 3) := by decide +kernel
theorem dX12_mustBe_5 : decode cX12_mustBe 5 = .ok (.aload_n 0, 1) := by decide +kernel
theorem dX12_mustBe_6 : decode cX12_mustBe 6 = .ok (.getfield 118, 3) := by decide +kernel
theorem dX12_mustBe_9 : decode cX12_mustBe 9 = .ok (.goto 4, 3) := by decide +kernel
theorem dX12_mustBe_12 : decode cX12_mustBe 12 = .ok (.iconst 1, 1) := by decide +kernel
theorem dX12_mustBe_13 : decode cX12_mustBe 13 = .ok (.putfield 118, 3) := by decide +kernel
theorem dX12_mustBe_16 : decode cX12_mustBe 16 = .ok (.iload_n 1, 1) := by decide +kernel
theorem dX12_mustBe_17 : decode cX12_mustBe 17 = .ok (.ireturn, 1) := by decide +kernel
theorem dX12_ends_0 : decode cX12_ends 0 = .ok (.aload_n 0, 1) := by decide +kernel
theorem dX12_ends_1 : decode cX12_ends 1 = .ok (.invokevirtual 115, 3) := by decide +kernel
theorem dX12_ends_4 : decode cX12_ends 4 = .ok (.aload_n 0, 1) := by decide +kernel
theorem dX12_ends_5 : decode cX12_ends 5 = .ok (.aload_n 0, 1) := by decide +kernel
theorem dX12_ends_6 : decode cX12_ends 6 = .ok (.getfield 100, 3) := by decide +kernel
theorem dX12_ends_9 : decode cX12_ends 9 = .ok (.iconst 3, 1) := by decide +kernel
theorem dX12_ends_10 : decode cX12_ends 10 = .ok (.if_icmp .ne 7, 3) := by decide +kernel
theorem dX12_ends_13 : decode cX12_ends 13 = .ok (.iconst 1, 1) := by decide +kernel
theorem dX12_ends_14 : decode cX12_ends 14 = .ok (.goto 4, 3) := by decide +kernel
theorem dX12_ends_17 : decode cX12_ends 17 = .ok (.iconst 0, 1) := by decide +kernel
theorem dX12_ends_18 : decode cX12_ends 18 = .ok (.invokevirtual 121, 3) := by decide +kernel
theorem dX12_ends_21 : decode cX12_ends 21 = .ok (.ireturn, 1) := by decide +kernel
theorem dX12_takesCell_0 : decode cX12_takesCell 0 = .ok (.aload_n 0, 1) := by decide +kernel
theorem dX12_takesCell_1 : decode cX12_takesCell 1 = .ok (.iconst 0, 1) := by decide +kernel
theorem dX12_takesCell_2 : decode cX12_takesCell 2 = .ok (.bipush 7, 2) := by decide +kernel
theorem dX12_takesCell_4 : decode cX12_takesCell 4 = .ok (.invokevirtual 125, 3) := by decide +kernel
theorem dX12_takesCell_7 : decode cX12_takesCell 7 = .ok (.ifCond .ne 5, 3) := by decide +kernel
theorem dX12_takesCell_10 : decode cX12_takesCell 10 = .ok (.iconst 0, 1) := by decide +kernel
theorem dX12_takesCell_11 : decode cX12_takesCell 11 = .ok (.ireturn, 1) := by decide +kernel
theorem dX12_takesCell_12 : decode cX12_takesCell 12 = .ok (.aload_n 0, 1) := by decide +kernel
theorem dX12_takesCell_13 : decode cX12_takesCell 13 = .ok (.aload_n 0, 1) := by decide +kernel
theorem dX12_takesCell_14 : decode cX12_takesCell 14 = .ok (.getfield 103, 3) := by decide +kernel
theorem dX12_takesCell_17 : decode cX12_takesCell 17 = .ok (.l2i, 1) := by decide +kernel
theorem dX12_takesCell_18 : decode cX12_takesCell 18 = .ok (.putfield 129, 3) := by decide +kernel
theorem dX12_takesCell_21 : decode cX12_takesCell 21 = .ok (.aload_n 0, 1) := by decide +kernel
theorem dX12_takesCell_22 : decode cX12_takesCell 22 = .ok (.iconst 0, 1) := by decide +kernel
theorem dX12_takesCell_23 : decode cX12_takesCell 23 = .ok (.iconst 5, 1) := by decide +kernel
theorem dX12_takesCell_24 : decode cX12_takesCell 24 = .ok (.invokevirtual 125, 3) := by decide +kernel
theorem dX12_takesCell_27 : decode cX12_takesCell 27 = .ok (.ifCond .ne 5, 3) := by decide +kernel
theorem dX12_takesCell_30 : decode cX12_takesCell 30 = .ok (.iconst 0, 1) := by decide +kernel
theorem dX12_takesCell_31 : decode cX12_takesCell 31 = .ok (.ireturn, 1) := by decide +kernel
theorem dX12_takesCell_32 : decode cX12_takesCell 32 = .ok (.aload_n 0, 1) := by decide +kernel
theorem dX12_takesCell_33 : decode cX12_takesCell 33 = .ok (.dup, 1) := by decide +kernel
theorem dX12_takesCell_34 : decode cX12_takesCell 34 = .ok (.getfield 129, 3) := by decide +kernel
theorem dX12_takesCell_37 : decode cX12_takesCell 37 = .ok (.bipush 8, 2) := by decide +kernel
theorem dX12_takesCell_39 : decode cX12_takesCell 39 = .ok (.aload_n 0, 1) := by decide +kernel
theorem dX12_takesCell_40 : decode cX12_takesCell 40 = .ok (.getfield 103, 3) := by decide +kernel
theorem dX12_takesCell_43 : decode cX12_takesCell 43 = .ok (.l2i, 1) := by decide +kernel
theorem dX12_takesCell_44 : decode cX12_takesCell 44 = .ok (.imul, 1) := by decide +kernel
theorem dX12_takesCell_45 : decode cX12_takesCell 45 = .ok (.iadd, 1) := by decide +kernel
theorem dX12_takesCell_46 : decode cX12_takesCell 46 = .ok (.putfield 129, 3) := by decide +kernel
theorem dX12_takesCell_49 : decode cX12_takesCell 49 = .ok (.iconst 1, 1) := by decide +kernel
theorem dX12_takesCell_50 : decode cX12_takesCell 50 = .ok (.ireturn, 1) := by decide +kernel
theorem dX12_hasRoom_0 : decode cX12_hasRoom 0 = .ok (.aload_n 0, 1) := by decide +kernel
theorem dX12_hasRoom_1 : decode cX12_hasRoom 1 = .ok (.iload_n 1, 1) := by decide +kernel
theorem dX12_hasRoom_2 : decode cX12_hasRoom 2 = .ok (.ifCond .eq 10, 3) := by decide +kernel
theorem dX12_hasRoom_5 : decode cX12_hasRoom 5 = .ok (.aload_n 0, 1) := by decide +kernel
theorem dX12_hasRoom_6 : decode cX12_hasRoom 6 = .ok (.getfield 118, 3) := by decide +kernel
theorem dX12_hasRoom_9 : decode cX12_hasRoom 9 = .ok (.goto 4, 3) := by decide +kernel
theorem dX12_hasRoom_12 : decode cX12_hasRoom 12 = .ok (.iconst 3, 1) := by decide +kernel
theorem dX12_hasRoom_13 : decode cX12_hasRoom 13 = .ok (.putfield 118, 3) := by decide +kernel
theorem dX12_hasRoom_16 : decode cX12_hasRoom 16 = .ok (.iload_n 1, 1) := by decide +kernel
theorem dX12_hasRoom_17 : decode cX12_hasRoom 17 = .ok (.ireturn, 1) := by decide +kernel
theorem dX12_readsVillage_0 : decode cX12_readsVillage 0 = .ok (.aload_n 0, 1) := by decide +kernel
theorem dX12_readsVillage_1 : decode cX12_readsVillage 1 = .ok (.aload_n 0, 1) := by decide +kernel
theorem dX12_readsVillage_2 : decode cX12_readsVillage 2 = .ok (.getfield 38, 3) := by decide +kernel
theorem dX12_readsVillage_5 : decode cX12_readsVillage 5 = .ok (.iconst 3, 1) := by decide +kernel
theorem dX12_readsVillage_6 : decode cX12_readsVillage 6 = .ok (.iaload, 1) := by decide +kernel
theorem dX12_readsVillage_7 : decode cX12_readsVillage 7 = .ok (.bipush 8, 2) := by decide +kernel
theorem dX12_readsVillage_9 : decode cX12_readsVillage 9 = .ok (.if_icmp .ge 7, 3) := by decide +kernel
theorem dX12_readsVillage_12 : decode cX12_readsVillage 12 = .ok (.iconst 1, 1) := by decide +kernel
theorem dX12_readsVillage_13 : decode cX12_readsVillage 13 = .ok (.goto 4, 3) := by decide +kernel
theorem dX12_readsVillage_16 : decode cX12_readsVillage 16 = .ok (.iconst 0, 1) := by decide +kernel
theorem dX12_readsVillage_17 : decode cX12_readsVillage 17 = .ok (.invokevirtual 132, 3) := by decide +kernel
theorem dX12_readsVillage_20 : decode cX12_readsVillage 20 = .ok (.ifCond .eq 20, 3) := by decide +kernel
theorem dX12_readsVillage_23 : decode cX12_readsVillage 23 = .ok (.aload_n 0, 1) := by decide +kernel
theorem dX12_readsVillage_24 : decode cX12_readsVillage 24 = .ok (.invokevirtual 135, 3) := by decide +kernel
theorem dX12_readsVillage_27 : decode cX12_readsVillage 27 = .ok (.ifCond .eq 13, 3) := by decide +kernel
theorem dX12_readsVillage_30 : decode cX12_readsVillage 30 = .ok (.aload_n 0, 1) := by decide +kernel
theorem dX12_readsVillage_31 : decode cX12_readsVillage 31 = .ok (.iconst 1, 1) := by decide +kernel
theorem dX12_readsVillage_32 : decode cX12_readsVillage 32 = .ok (.bipush 99, 2) := by decide +kernel
theorem dX12_readsVillage_34 : decode cX12_readsVillage 34 = .ok (.invokevirtual 125, 3) := by decide +kernel
theorem dX12_readsVillage_37 : decode cX12_readsVillage 37 = .ok (.ifCond .ne 5, 3) := by decide +kernel
theorem dX12_readsVillage_40 : decode cX12_readsVillage 40 = .ok (.iconst 0, 1) := by decide +kernel
theorem dX12_readsVillage_41 : decode cX12_readsVillage 41 = .ok (.ireturn, 1) := by decide +kernel
theorem dX12_readsVillage_42 : decode cX12_readsVillage 42 = .ok (.aload_n 0, 1) := by decide +kernel
theorem dX12_readsVillage_43 : decode cX12_readsVillage 43 = .ok (.getfield 38, 3) := by decide +kernel
theorem dX12_readsVillage_46 : decode cX12_readsVillage 46 = .ok (.bipush 73, 2) := by decide +kernel
theorem dX12_readsVillage_48 : decode cX12_readsVillage 48 = .ok (.aload_n 0, 1) := by decide +kernel
theorem dX12_readsVillage_49 : decode cX12_readsVillage 49 = .ok (.getfield 129, 3) := by decide +kernel
theorem dX12_readsVillage_52 : decode cX12_readsVillage 52 = .ok (.iadd, 1) := by decide +kernel
theorem dX12_readsVillage_53 : decode cX12_readsVillage 53 = .ok (.dup2, 1) := by decide +kernel
theorem dX12_readsVillage_54 : decode cX12_readsVillage 54 = .ok (.iaload, 1) := by decide +kernel
theorem dX12_readsVillage_55 : decode cX12_readsVillage 55 = .ok (.aload_n 0, 1) := by decide +kernel
theorem dX12_readsVillage_56 : decode cX12_readsVillage 56 = .ok (.getfield 103, 3) := by decide +kernel
theorem dX12_readsVillage_59 : decode cX12_readsVillage 59 = .ok (.l2i, 1) := by decide +kernel
theorem dX12_readsVillage_60 : decode cX12_readsVillage 60 = .ok (.iadd, 1) := by decide +kernel
theorem dX12_readsVillage_61 : decode cX12_readsVillage 61 = .ok (.iastore, 1) := by decide +kernel
theorem dX12_readsVillage_62 : decode cX12_readsVillage 62 = .ok (.aload_n 0, 1) := by decide +kernel
theorem dX12_readsVillage_63 : decode cX12_readsVillage 63 = .ok (.getfield 38, 3) := by decide +kernel
theorem dX12_readsVillage_66 : decode cX12_readsVillage 66 = .ok (.iconst 3, 1) := by decide +kernel
theorem dX12_readsVillage_67 : decode cX12_readsVillage 67 = .ok (.dup2, 1) := by decide +kernel
theorem dX12_readsVillage_68 : decode cX12_readsVillage 68 = .ok (.iaload, 1) := by decide +kernel
theorem dX12_readsVillage_69 : decode cX12_readsVillage 69 = .ok (.iconst 1, 1) := by decide +kernel
theorem dX12_readsVillage_70 : decode cX12_readsVillage 70 = .ok (.iadd, 1) := by decide +kernel
theorem dX12_readsVillage_71 : decode cX12_readsVillage 71 = .ok (.iastore, 1) := by decide +kernel
theorem dX12_readsVillage_72 : decode cX12_readsVillage 72 = .ok (.aload_n 0, 1) := by decide +kernel
theorem dX12_readsVillage_73 : decode cX12_readsVillage 73 = .ok (.invokevirtual 139, 3) := by decide +kernel
theorem dX12_readsVillage_76 : decode cX12_readsVillage 76 = .ok (.ireturn, 1) := by decide +kernel
theorem dX12_readsGuard_0 : decode cX12_readsGuard 0 = .ok (.aload_n 0, 1) := by decide +kernel
theorem dX12_readsGuard_1 : decode cX12_readsGuard 1 = .ok (.aload_n 0, 1) := by decide +kernel
theorem dX12_readsGuard_2 : decode cX12_readsGuard 2 = .ok (.getfield 142, 3) := by decide +kernel
theorem dX12_readsGuard_5 : decode cX12_readsGuard 5 = .ok (.bipush 8, 2) := by decide +kernel
theorem dX12_readsGuard_7 : decode cX12_readsGuard 7 = .ok (.if_icmp .ge 7, 3) := by decide +kernel
theorem dX12_readsGuard_10 : decode cX12_readsGuard 10 = .ok (.iconst 1, 1) := by decide +kernel
theorem dX12_readsGuard_11 : decode cX12_readsGuard 11 = .ok (.goto 4, 3) := by decide +kernel
theorem dX12_readsGuard_14 : decode cX12_readsGuard 14 = .ok (.iconst 0, 1) := by decide +kernel
theorem dX12_readsGuard_15 : decode cX12_readsGuard 15 = .ok (.invokevirtual 132, 3) := by decide +kernel
theorem dX12_readsGuard_18 : decode cX12_readsGuard 18 = .ok (.ifCond .eq 10, 3) := by decide +kernel
theorem dX12_readsGuard_21 : decode cX12_readsGuard 21 = .ok (.aload_n 0, 1) := by decide +kernel
theorem dX12_readsGuard_22 : decode cX12_readsGuard 22 = .ok (.invokevirtual 135, 3) := by decide +kernel
theorem dX12_readsGuard_25 : decode cX12_readsGuard 25 = .ok (.ifCond .ne 5, 3) := by decide +kernel
theorem dX12_readsGuard_28 : decode cX12_readsGuard 28 = .ok (.iconst 0, 1) := by decide +kernel
theorem dX12_readsGuard_29 : decode cX12_readsGuard 29 = .ok (.ireturn, 1) := by decide +kernel
theorem dX12_readsGuard_30 : decode cX12_readsGuard 30 = .ok (.aload_n 0, 1) := by decide +kernel
theorem dX12_readsGuard_31 : decode cX12_readsGuard 31 = .ok (.getfield 38, 3) := by decide +kernel
theorem dX12_readsGuard_34 : decode cX12_readsGuard 34 = .ok (.bipush 25, 2) := by decide +kernel
theorem dX12_readsGuard_36 : decode cX12_readsGuard 36 = .ok (.aload_n 0, 1) := by decide +kernel
theorem dX12_readsGuard_37 : decode cX12_readsGuard 37 = .ok (.getfield 129, 3) := by decide +kernel
theorem dX12_readsGuard_40 : decode cX12_readsGuard 40 = .ok (.iadd, 1) := by decide +kernel
theorem dX12_readsGuard_41 : decode cX12_readsGuard 41 = .ok (.iconst 1, 1) := by decide +kernel
theorem dX12_readsGuard_42 : decode cX12_readsGuard 42 = .ok (.iastore, 1) := by decide +kernel
theorem dX12_readsGuard_43 : decode cX12_readsGuard 43 = .ok (.aload_n 0, 1) := by decide +kernel
theorem dX12_readsGuard_44 : decode cX12_readsGuard 44 = .ok (.dup, 1) := by decide +kernel
theorem dX12_readsGuard_45 : decode cX12_readsGuard 45 = .ok (.getfield 142, 3) := by decide +kernel
theorem dX12_readsGuard_48 : decode cX12_readsGuard 48 = .ok (.iconst 1, 1) := by decide +kernel
theorem dX12_readsGuard_49 : decode cX12_readsGuard 49 = .ok (.iadd, 1) := by decide +kernel
theorem dX12_readsGuard_50 : decode cX12_readsGuard 50 = .ok (.putfield 142, 3) := by decide +kernel
theorem dX12_readsGuard_53 : decode cX12_readsGuard 53 = .ok (.aload_n 0, 1) := by decide +kernel
theorem dX12_readsGuard_54 : decode cX12_readsGuard 54 = .ok (.invokevirtual 139, 3) := by decide +kernel
theorem dX12_readsGuard_57 : decode cX12_readsGuard 57 = .ok (.ireturn, 1) := by decide +kernel
theorem dX12_kindHere_0 : decode cX12_kindHere 0 = .ok (.aload_n 0, 1) := by decide +kernel
theorem dX12_kindHere_1 : decode cX12_kindHere 1 = .ok (.invokevirtual 115, 3) := by decide +kernel
theorem dX12_kindHere_4 : decode cX12_kindHere 4 = .ok (.aload_n 0, 1) := by decide +kernel
theorem dX12_kindHere_5 : decode cX12_kindHere 5 = .ok (.getfield 100, 3) := by decide +kernel
theorem dX12_kindHere_8 : decode cX12_kindHere 8 = .ok (.iconst 1, 1) := by decide +kernel
theorem dX12_kindHere_9 : decode cX12_kindHere 9 = .ok (.if_icmp .eq 7, 3) := by decide +kernel
theorem dX12_kindHere_12 : decode cX12_kindHere 12 = .ok (.iconst 0, 1) := by decide +kernel
theorem dX12_kindHere_13 : decode cX12_kindHere 13 = .ok (.goto 79, 3) := by decide +kernel
theorem dX12_kindHere_16 : decode cX12_kindHere 16 = .ok (.aload_n 0, 1) := by decide +kernel
theorem dX12_kindHere_17 : decode cX12_kindHere 17 = .ok (.getfield 103, 3) := by decide +kernel
theorem dX12_kindHere_20 : decode cX12_kindHere 20 = .ok (.ldc2_w 145, 3) := by decide +kernel
theorem dX12_kindHere_23 : decode cX12_kindHere 23 = .ok (.lcmp, 1) := by decide +kernel
theorem dX12_kindHere_24 : decode cX12_kindHere 24 = .ok (.ifCond .ne 7, 3) := by decide +kernel
theorem dX12_kindHere_27 : decode cX12_kindHere 27 = .ok (.iconst 1, 1) := by decide +kernel
theorem dX12_kindHere_28 : decode cX12_kindHere 28 = .ok (.goto 64, 3) := by decide +kernel
theorem dX12_kindHere_31 : decode cX12_kindHere 31 = .ok (.aload_n 0, 1) := by decide +kernel
theorem dX12_kindHere_32 : decode cX12_kindHere 32 = .ok (.getfield 103, 3) := by decide +kernel
theorem dX12_kindHere_35 : decode cX12_kindHere 35 = .ok (.ldc2_w 147, 3) := by decide +kernel
theorem dX12_kindHere_38 : decode cX12_kindHere 38 = .ok (.lcmp, 1) := by decide +kernel
theorem dX12_kindHere_39 : decode cX12_kindHere 39 = .ok (.ifCond .ne 7, 3) := by decide +kernel
theorem dX12_kindHere_42 : decode cX12_kindHere 42 = .ok (.iconst 2, 1) := by decide +kernel
theorem dX12_kindHere_43 : decode cX12_kindHere 43 = .ok (.goto 49, 3) := by decide +kernel
theorem dX12_kindHere_46 : decode cX12_kindHere 46 = .ok (.aload_n 0, 1) := by decide +kernel
theorem dX12_kindHere_47 : decode cX12_kindHere 47 = .ok (.getfield 103, 3) := by decide +kernel
theorem dX12_kindHere_50 : decode cX12_kindHere 50 = .ok (.ldc2_w 149, 3) := by decide +kernel
theorem dX12_kindHere_53 : decode cX12_kindHere 53 = .ok (.lcmp, 1) := by decide +kernel
theorem dX12_kindHere_54 : decode cX12_kindHere 54 = .ok (.ifCond .ne 7, 3) := by decide +kernel
theorem dX12_kindHere_57 : decode cX12_kindHere 57 = .ok (.iconst 3, 1) := by decide +kernel
theorem dX12_kindHere_58 : decode cX12_kindHere 58 = .ok (.goto 34, 3) := by decide +kernel
theorem dX12_kindHere_61 : decode cX12_kindHere 61 = .ok (.aload_n 0, 1) := by decide +kernel
theorem dX12_kindHere_62 : decode cX12_kindHere 62 = .ok (.getfield 103, 3) := by decide +kernel
theorem dX12_kindHere_65 : decode cX12_kindHere 65 = .ok (.ldc2_w 151, 3) := by decide +kernel
theorem dX12_kindHere_68 : decode cX12_kindHere 68 = .ok (.lcmp, 1) := by decide +kernel
theorem dX12_kindHere_69 : decode cX12_kindHere 69 = .ok (.ifCond .ne 7, 3) := by decide +kernel
theorem dX12_kindHere_72 : decode cX12_kindHere 72 = .ok (.iconst 4, 1) := by decide +kernel
theorem dX12_kindHere_73 : decode cX12_kindHere 73 = .ok (.goto 19, 3) := by decide +kernel
theorem dX12_kindHere_76 : decode cX12_kindHere 76 = .ok (.aload_n 0, 1) := by decide +kernel
theorem dX12_kindHere_77 : decode cX12_kindHere 77 = .ok (.getfield 103, 3) := by decide +kernel
theorem dX12_kindHere_80 : decode cX12_kindHere 80 = .ok (.ldc2_w 153, 3) := by decide +kernel
theorem dX12_kindHere_83 : decode cX12_kindHere 83 = .ok (.lcmp, 1) := by decide +kernel
theorem dX12_kindHere_84 : decode cX12_kindHere 84 = .ok (.ifCond .ne 7, 3) := by decide +kernel
theorem dX12_kindHere_87 : decode cX12_kindHere 87 = .ok (.iconst 5, 1) := by decide +kernel
theorem dX12_kindHere_88 : decode cX12_kindHere 88 = .ok (.goto 4, 3) := by decide +kernel
theorem dX12_kindHere_91 : decode cX12_kindHere 91 = .ok (.iconst 0, 1) := by decide +kernel
theorem dX12_kindHere_92 : decode cX12_kindHere 92 = .ok (.ireturn, 1) := by decide +kernel
theorem dX12_readsPerson_0 : decode cX12_readsPerson 0 = .ok (.aload_n 0, 1) := by decide +kernel
theorem dX12_readsPerson_1 : decode cX12_readsPerson 1 = .ok (.getfield 38, 3) := by decide +kernel
theorem dX12_readsPerson_4 : decode cX12_readsPerson 4 = .ok (.iconst 4, 1) := by decide +kernel
theorem dX12_readsPerson_5 : decode cX12_readsPerson 5 = .ok (.iaload, 1) := by decide +kernel
theorem dX12_readsPerson_6 : decode cX12_readsPerson 6 = .ok (.istore_n 1, 1) := by decide +kernel
theorem dX12_readsPerson_7 : decode cX12_readsPerson 7 = .ok (.aload_n 0, 1) := by decide +kernel
theorem dX12_readsPerson_8 : decode cX12_readsPerson 8 = .ok (.iload_n 1, 1) := by decide +kernel
theorem dX12_readsPerson_9 : decode cX12_readsPerson 9 = .ok (.iconst 5, 1) := by decide +kernel
theorem dX12_readsPerson_10 : decode cX12_readsPerson 10 = .ok (.if_icmp .ge 7, 3) := by decide +kernel
theorem dX12_readsPerson_13 : decode cX12_readsPerson 13 = .ok (.iconst 1, 1) := by decide +kernel
theorem dX12_readsPerson_14 : decode cX12_readsPerson 14 = .ok (.goto 4, 3) := by decide +kernel
theorem dX12_readsPerson_17 : decode cX12_readsPerson 17 = .ok (.iconst 0, 1) := by decide +kernel
theorem dX12_readsPerson_18 : decode cX12_readsPerson 18 = .ok (.invokevirtual 132, 3) := by decide +kernel
theorem dX12_readsPerson_21 : decode cX12_readsPerson 21 = .ok (.ifCond .ne 5, 3) := by decide +kernel
theorem dX12_readsPerson_24 : decode cX12_readsPerson 24 = .ok (.iconst 0, 1) := by decide +kernel
theorem dX12_readsPerson_25 : decode cX12_readsPerson 25 = .ok (.ireturn, 1) := by decide +kernel
theorem dX12_readsPerson_26 : decode cX12_readsPerson 26 = .ok (.aload_n 0, 1) := by decide +kernel
theorem dX12_readsPerson_27 : decode cX12_readsPerson 27 = .ok (.getfield 38, 3) := by decide +kernel
theorem dX12_readsPerson_30 : decode cX12_readsPerson 30 = .ok (.iconst 5, 1) := by decide +kernel
theorem dX12_readsPerson_31 : decode cX12_readsPerson 31 = .ok (.iload_n 1, 1) := by decide +kernel
theorem dX12_readsPerson_32 : decode cX12_readsPerson 32 = .ok (.iadd, 1) := by decide +kernel
theorem dX12_readsPerson_33 : decode cX12_readsPerson 33 = .ok (.aload_n 0, 1) := by decide +kernel
theorem dX12_readsPerson_34 : decode cX12_readsPerson 34 = .ok (.invokevirtual 155, 3) := by decide +kernel
theorem dX12_readsPerson_37 : decode cX12_readsPerson 37 = .ok (.iastore, 1) := by decide +kernel
theorem dX12_readsPerson_38 : decode cX12_readsPerson 38 = .ok (.aload_n 0, 1) := by decide +kernel
theorem dX12_readsPerson_39 : decode cX12_readsPerson 39 = .ok (.aload_n 0, 1) := by decide +kernel
theorem dX12_readsPerson_40 : decode cX12_readsPerson 40 = .ok (.getfield 38, 3) := by decide +kernel
theorem dX12_readsPerson_43 : decode cX12_readsPerson 43 = .ok (.iconst 5, 1) := by decide +kernel
theorem dX12_readsPerson_44 : decode cX12_readsPerson 44 = .ok (.iload_n 1, 1) := by decide +kernel
theorem dX12_readsPerson_45 : decode cX12_readsPerson 45 = .ok (.iadd, 1) := by decide +kernel
theorem dX12_readsPerson_46 : decode cX12_readsPerson 46 = .ok (.iaload, 1) := by decide +kernel
theorem dX12_readsPerson_47 : decode cX12_readsPerson 47 = .ok (.ifCond .le 7, 3) := by decide +kernel
theorem dX12_readsPerson_50 : decode cX12_readsPerson 50 = .ok (.iconst 1, 1) := by decide +kernel
theorem dX12_readsPerson_51 : decode cX12_readsPerson 51 = .ok (.goto 4, 3) := by decide +kernel
theorem dX12_readsPerson_54 : decode cX12_readsPerson 54 = .ok (.iconst 0, 1) := by decide +kernel
theorem dX12_readsPerson_55 : decode cX12_readsPerson 55 = .ok (.invokevirtual 121, 3) := by decide +kernel
theorem dX12_readsPerson_58 : decode cX12_readsPerson 58 = .ok (.ifCond .eq 12, 3) := by decide +kernel
theorem dX12_readsPerson_61 : decode cX12_readsPerson 61 = .ok (.aload_n 0, 1) := by decide +kernel
theorem dX12_readsPerson_62 : decode cX12_readsPerson 62 = .ok (.iconst 0, 1) := by decide +kernel
theorem dX12_readsPerson_63 : decode cX12_readsPerson 63 = .ok (.iconst 1, 1) := by decide +kernel
theorem dX12_readsPerson_64 : decode cX12_readsPerson 64 = .ok (.invokevirtual 125, 3) := by decide +kernel
theorem dX12_readsPerson_67 : decode cX12_readsPerson 67 = .ok (.ifCond .ne 5, 3) := by decide +kernel
theorem dX12_readsPerson_70 : decode cX12_readsPerson 70 = .ok (.iconst 0, 1) := by decide +kernel
theorem dX12_readsPerson_71 : decode cX12_readsPerson 71 = .ok (.ireturn, 1) := by decide +kernel
theorem dX12_readsPerson_72 : decode cX12_readsPerson 72 = .ok (.aload_n 0, 1) := by decide +kernel
theorem dX12_readsPerson_73 : decode cX12_readsPerson 73 = .ok (.getfield 38, 3) := by decide +kernel
theorem dX12_readsPerson_76 : decode cX12_readsPerson 76 = .ok (.bipush 10, 2) := by decide +kernel
theorem dX12_readsPerson_78 : decode cX12_readsPerson 78 = .ok (.iload_n 1, 1) := by decide +kernel
theorem dX12_readsPerson_79 : decode cX12_readsPerson 79 = .ok (.iadd, 1) := by decide +kernel
theorem dX12_readsPerson_80 : decode cX12_readsPerson 80 = .ok (.aload_n 0, 1) := by decide +kernel
theorem dX12_readsPerson_81 : decode cX12_readsPerson 81 = .ok (.getfield 103, 3) := by decide +kernel
theorem dX12_readsPerson_84 : decode cX12_readsPerson 84 = .ok (.l2i, 1) := by decide +kernel
theorem dX12_readsPerson_85 : decode cX12_readsPerson 85 = .ok (.iastore, 1) := by decide +kernel
theorem dX12_readsPerson_86 : decode cX12_readsPerson 86 = .ok (.aload_n 0, 1) := by decide +kernel
theorem dX12_readsPerson_87 : decode cX12_readsPerson 87 = .ok (.invokevirtual 135, 3) := by decide +kernel
theorem dX12_readsPerson_90 : decode cX12_readsPerson 90 = .ok (.ifCond .eq 13, 3) := by decide +kernel
theorem dX12_readsPerson_93 : decode cX12_readsPerson 93 = .ok (.aload_n 0, 1) := by decide +kernel
theorem dX12_readsPerson_94 : decode cX12_readsPerson 94 = .ok (.iconst 0, 1) := by decide +kernel
theorem dX12_readsPerson_95 : decode cX12_readsPerson 95 = .ok (.bipush 13, 2) := by decide +kernel
theorem dX12_readsPerson_97 : decode cX12_readsPerson 97 = .ok (.invokevirtual 125, 3) := by decide +kernel
theorem dX12_readsPerson_100 : decode cX12_readsPerson 100 = .ok (.ifCond .ne 5, 3) := by decide +kernel
theorem dX12_readsPerson_103 : decode cX12_readsPerson 103 = .ok (.iconst 0, 1) := by decide +kernel
theorem dX12_readsPerson_104 : decode cX12_readsPerson 104 = .ok (.ireturn, 1) := by decide +kernel
theorem dX12_readsPerson_105 : decode cX12_readsPerson 105 = .ok (.aload_n 0, 1) := by decide +kernel
theorem dX12_readsPerson_106 : decode cX12_readsPerson 106 = .ok (.getfield 38, 3) := by decide +kernel
theorem dX12_readsPerson_109 : decode cX12_readsPerson 109 = .ok (.bipush 15, 2) := by decide +kernel
theorem dX12_readsPerson_111 : decode cX12_readsPerson 111 = .ok (.iload_n 1, 1) := by decide +kernel
theorem dX12_readsPerson_112 : decode cX12_readsPerson 112 = .ok (.iadd, 1) := by decide +kernel
theorem dX12_readsPerson_113 : decode cX12_readsPerson 113 = .ok (.aload_n 0, 1) := by decide +kernel
theorem dX12_readsPerson_114 : decode cX12_readsPerson 114 = .ok (.getfield 129, 3) := by decide +kernel
theorem dX12_readsPerson_117 : decode cX12_readsPerson 117 = .ok (.iastore, 1) := by decide +kernel
theorem dX12_readsPerson_118 : decode cX12_readsPerson 118 = .ok (.aload_n 0, 1) := by decide +kernel
theorem dX12_readsPerson_119 : decode cX12_readsPerson 119 = .ok (.getfield 38, 3) := by decide +kernel
theorem dX12_readsPerson_122 : decode cX12_readsPerson 122 = .ok (.bipush 20, 2) := by decide +kernel
theorem dX12_readsPerson_124 : decode cX12_readsPerson 124 = .ok (.iload_n 1, 1) := by decide +kernel
theorem dX12_readsPerson_125 : decode cX12_readsPerson 125 = .ok (.iadd, 1) := by decide +kernel
theorem dX12_readsPerson_126 : decode cX12_readsPerson 126 = .ok (.aload_n 0, 1) := by decide +kernel
theorem dX12_readsPerson_127 : decode cX12_readsPerson 127 = .ok (.getfield 103, 3) := by decide +kernel
theorem dX12_readsPerson_130 : decode cX12_readsPerson 130 = .ok (.l2i, 1) := by decide +kernel
theorem dX12_readsPerson_131 : decode cX12_readsPerson 131 = .ok (.iastore, 1) := by decide +kernel
theorem dX12_readsPerson_132 : decode cX12_readsPerson 132 = .ok (.aload_n 0, 1) := by decide +kernel
theorem dX12_readsPerson_133 : decode cX12_readsPerson 133 = .ok (.getfield 38, 3) := by decide +kernel
theorem dX12_readsPerson_136 : decode cX12_readsPerson 136 = .ok (.iconst 4, 1) := by decide +kernel
theorem dX12_readsPerson_137 : decode cX12_readsPerson 137 = .ok (.dup2, 1) := by decide +kernel
theorem dX12_readsPerson_138 : decode cX12_readsPerson 138 = .ok (.iaload, 1) := by decide +kernel
theorem dX12_readsPerson_139 : decode cX12_readsPerson 139 = .ok (.iconst 1, 1) := by decide +kernel
theorem dX12_readsPerson_140 : decode cX12_readsPerson 140 = .ok (.iadd, 1) := by decide +kernel
theorem dX12_readsPerson_141 : decode cX12_readsPerson 141 = .ok (.iastore, 1) := by decide +kernel
theorem dX12_readsPerson_142 : decode cX12_readsPerson 142 = .ok (.aload_n 0, 1) := by decide +kernel
theorem dX12_readsPerson_143 : decode cX12_readsPerson 143 = .ok (.invokevirtual 139, 3) := by decide +kernel
theorem dX12_readsPerson_146 : decode cX12_readsPerson 146 = .ok (.ireturn, 1) := by decide +kernel
theorem dX12_posts_0 : decode cX12_posts 0 = .ok (.aload_n 0, 1) := by decide +kernel
theorem dX12_posts_1 : decode cX12_posts 1 = .ok (.invokevirtual 115, 3) := by decide +kernel
theorem dX12_posts_4 : decode cX12_posts 4 = .ok (.aload_n 0, 1) := by decide +kernel
theorem dX12_posts_5 : decode cX12_posts 5 = .ok (.aload_n 0, 1) := by decide +kernel
theorem dX12_posts_6 : decode cX12_posts 6 = .ok (.getfield 100, 3) := by decide +kernel
theorem dX12_posts_9 : decode cX12_posts 9 = .ok (.iconst 1, 1) := by decide +kernel
theorem dX12_posts_10 : decode cX12_posts 10 = .ok (.if_icmp .ne 18, 3) := by decide +kernel
theorem dX12_posts_13 : decode cX12_posts 13 = .ok (.aload_n 0, 1) := by decide +kernel
theorem dX12_posts_14 : decode cX12_posts 14 = .ok (.getfield 103, 3) := by decide +kernel
theorem dX12_posts_17 : decode cX12_posts 17 = .ok (.ldc2_w 159, 3) := by decide +kernel
theorem dX12_posts_20 : decode cX12_posts 20 = .ok (.lcmp, 1) := by decide +kernel
theorem dX12_posts_21 : decode cX12_posts 21 = .ok (.ifCond .ne 7, 3) := by decide +kernel
theorem dX12_posts_24 : decode cX12_posts 24 = .ok (.iconst 1, 1) := by decide +kernel
theorem dX12_posts_25 : decode cX12_posts 25 = .ok (.goto 4, 3) := by decide +kernel
theorem dX12_posts_28 : decode cX12_posts 28 = .ok (.iconst 0, 1) := by decide +kernel
theorem dX12_posts_29 : decode cX12_posts 29 = .ok (.invokevirtual 121, 3) := by decide +kernel
theorem dX12_posts_32 : decode cX12_posts 32 = .ok (.ifCond .ne 5, 3) := by decide +kernel
theorem dX12_posts_35 : decode cX12_posts 35 = .ok (.iconst 0, 1) := by decide +kernel
theorem dX12_posts_36 : decode cX12_posts 36 = .ok (.ireturn, 1) := by decide +kernel
theorem dX12_posts_37 : decode cX12_posts 37 = .ok (.iconst 0, 1) := by decide +kernel
theorem dX12_posts_38 : decode cX12_posts 38 = .ok (.istore_n 1, 1) := by decide +kernel
theorem dX12_posts_39 : decode cX12_posts 39 = .ok (.iload_n 1, 1) := by decide +kernel
theorem dX12_posts_40 : decode cX12_posts 40 = .ok (.iconst 3, 1) := by decide +kernel
theorem dX12_posts_41 : decode cX12_posts 41 = .ok (.if_icmp .ge 50, 3) := by decide +kernel
theorem dX12_posts_44 : decode cX12_posts 44 = .ok (.aload_n 0, 1) := by decide +kernel
theorem dX12_posts_45 : decode cX12_posts 45 = .ok (.iload_n 1, 1) := by decide +kernel
theorem dX12_posts_46 : decode cX12_posts 46 = .ok (.iconst 2, 1) := by decide +kernel
theorem dX12_posts_47 : decode cX12_posts 47 = .ok (.if_icmp .ge 7, 3) := by decide +kernel
theorem dX12_posts_50 : decode cX12_posts 50 = .ok (.iconst 0, 1) := by decide +kernel
theorem dX12_posts_51 : decode cX12_posts 51 = .ok (.goto 4, 3) := by decide +kernel
theorem dX12_posts_54 : decode cX12_posts 54 = .ok (.iconst 1, 1) := by decide +kernel
theorem dX12_posts_55 : decode cX12_posts 55 = .ok (.iload_n 1, 1) := by decide +kernel
theorem dX12_posts_56 : decode cX12_posts 56 = .ok (.iconst 2, 1) := by decide +kernel
theorem dX12_posts_57 : decode cX12_posts 57 = .ok (.if_icmp .ge 7, 3) := by decide +kernel
theorem dX12_posts_60 : decode cX12_posts 60 = .ok (.iconst 5, 1) := by decide +kernel
theorem dX12_posts_61 : decode cX12_posts 61 = .ok (.goto 5, 3) := by decide +kernel
theorem dX12_posts_64 : decode cX12_posts 64 = .ok (.bipush 6, 2) := by decide +kernel
theorem dX12_posts_66 : decode cX12_posts 66 = .ok (.invokevirtual 125, 3) := by decide +kernel
theorem dX12_posts_69 : decode cX12_posts 69 = .ok (.ifCond .ne 5, 3) := by decide +kernel
theorem dX12_posts_72 : decode cX12_posts 72 = .ok (.iconst 0, 1) := by decide +kernel
theorem dX12_posts_73 : decode cX12_posts 73 = .ok (.ireturn, 1) := by decide +kernel
theorem dX12_posts_74 : decode cX12_posts 74 = .ok (.aload_n 0, 1) := by decide +kernel
theorem dX12_posts_75 : decode cX12_posts 75 = .ok (.getfield 38, 3) := by decide +kernel
theorem dX12_posts_78 : decode cX12_posts 78 = .ok (.iload_n 1, 1) := by decide +kernel
theorem dX12_posts_79 : decode cX12_posts 79 = .ok (.aload_n 0, 1) := by decide +kernel
theorem dX12_posts_80 : decode cX12_posts 80 = .ok (.getfield 103, 3) := by decide +kernel
theorem dX12_posts_83 : decode cX12_posts 83 = .ok (.l2i, 1) := by decide +kernel
theorem dX12_posts_84 : decode cX12_posts 84 = .ok (.iastore, 1) := by decide +kernel
theorem dX12_posts_85 : decode cX12_posts 85 = .ok (.iinc 1 1, 3) := by decide +kernel
theorem dX12_posts_88 : decode cX12_posts 88 = .ok (.goto (-49), 3) := by decide +kernel
theorem dX12_posts_91 : decode cX12_posts 91 = .ok (.aload_n 0, 1) := by decide +kernel
theorem dX12_posts_92 : decode cX12_posts 92 = .ok (.invokevirtual 139, 3) := by decide +kernel
theorem dX12_posts_95 : decode cX12_posts 95 = .ok (.ireturn, 1) := by decide +kernel
theorem dX12_begins_0 : decode cX12_begins 0 = .ok (.aload_n 0, 1) := by decide +kernel
theorem dX12_begins_1 : decode cX12_begins 1 = .ok (.getfield 100, 3) := by decide +kernel
theorem dX12_begins_4 : decode cX12_begins 4 = .ok (.iconst 1, 1) := by decide +kernel
theorem dX12_begins_5 : decode cX12_begins 5 = .ok (.if_icmp .eq 7, 3) := by decide +kernel
theorem dX12_begins_8 : decode cX12_begins 8 = .ok (.iconst 0, 1) := by decide +kernel
theorem dX12_begins_9 : decode cX12_begins 9 = .ok (.goto 49, 3) := by decide +kernel
theorem dX12_begins_12 : decode cX12_begins 12 = .ok (.aload_n 0, 1) := by decide +kernel
theorem dX12_begins_13 : decode cX12_begins 13 = .ok (.getfield 103, 3) := by decide +kernel
theorem dX12_begins_16 : decode cX12_begins 16 = .ok (.ldc2_w 161, 3) := by decide +kernel
theorem dX12_begins_19 : decode cX12_begins 19 = .ok (.lcmp, 1) := by decide +kernel
theorem dX12_begins_20 : decode cX12_begins 20 = .ok (.ifCond .ne 7, 3) := by decide +kernel
theorem dX12_begins_23 : decode cX12_begins 23 = .ok (.iconst 1, 1) := by decide +kernel
theorem dX12_begins_24 : decode cX12_begins 24 = .ok (.goto 34, 3) := by decide +kernel
theorem dX12_begins_27 : decode cX12_begins 27 = .ok (.aload_n 0, 1) := by decide +kernel
theorem dX12_begins_28 : decode cX12_begins 28 = .ok (.getfield 103, 3) := by decide +kernel
theorem dX12_begins_31 : decode cX12_begins 31 = .ok (.ldc2_w 163, 3) := by decide +kernel
theorem dX12_begins_34 : decode cX12_begins 34 = .ok (.lcmp, 1) := by decide +kernel
theorem dX12_begins_35 : decode cX12_begins 35 = .ok (.ifCond .ne 7, 3) := by decide +kernel
theorem dX12_begins_38 : decode cX12_begins 38 = .ok (.iconst 2, 1) := by decide +kernel
theorem dX12_begins_39 : decode cX12_begins 39 = .ok (.goto 19, 3) := by decide +kernel
theorem dX12_begins_42 : decode cX12_begins 42 = .ok (.aload_n 0, 1) := by decide +kernel
theorem dX12_begins_43 : decode cX12_begins 43 = .ok (.getfield 103, 3) := by decide +kernel
theorem dX12_begins_46 : decode cX12_begins 46 = .ok (.ldc2_w 165, 3) := by decide +kernel
theorem dX12_begins_49 : decode cX12_begins 49 = .ok (.lcmp, 1) := by decide +kernel
theorem dX12_begins_50 : decode cX12_begins 50 = .ok (.ifCond .ne 7, 3) := by decide +kernel
theorem dX12_begins_53 : decode cX12_begins 53 = .ok (.iconst 3, 1) := by decide +kernel
theorem dX12_begins_54 : decode cX12_begins 54 = .ok (.goto 4, 3) := by decide +kernel
theorem dX12_begins_57 : decode cX12_begins 57 = .ok (.iconst 0, 1) := by decide +kernel
theorem dX12_begins_58 : decode cX12_begins 58 = .ok (.ireturn, 1) := by decide +kernel
theorem dX12_reads_0 : decode cX12_reads 0 = .ok (.iconst 0, 1) := by decide +kernel
theorem dX12_reads_1 : decode cX12_reads 1 = .ok (.istore_n 1, 1) := by decide +kernel
theorem dX12_reads_2 : decode cX12_reads 2 = .ok (.iload_n 1, 1) := by decide +kernel
theorem dX12_reads_3 : decode cX12_reads 3 = .ok (.sipush 138, 3) := by decide +kernel
theorem dX12_reads_6 : decode cX12_reads 6 = .ok (.if_icmp .ge 16, 3) := by decide +kernel
theorem dX12_reads_9 : decode cX12_reads 9 = .ok (.aload_n 0, 1) := by decide +kernel
theorem dX12_reads_10 : decode cX12_reads 10 = .ok (.getfield 38, 3) := by decide +kernel
theorem dX12_reads_13 : decode cX12_reads 13 = .ok (.iload_n 1, 1) := by decide +kernel
theorem dX12_reads_14 : decode cX12_reads 14 = .ok (.iconst 0, 1) := by decide +kernel
theorem dX12_reads_15 : decode cX12_reads 15 = .ok (.iastore, 1) := by decide +kernel
theorem dX12_reads_16 : decode cX12_reads 16 = .ok (.iinc 1 1, 3) := by decide +kernel
theorem dX12_reads_19 : decode cX12_reads 19 = .ok (.goto (-17), 3) := by decide +kernel
theorem dX12_reads_22 : decode cX12_reads 22 = .ok (.aload_n 0, 1) := by decide +kernel
theorem dX12_reads_23 : decode cX12_reads 23 = .ok (.iconst 0, 1) := by decide +kernel
theorem dX12_reads_24 : decode cX12_reads 24 = .ok (.putfield 142, 3) := by decide +kernel
theorem dX12_reads_27 : decode cX12_reads 27 = .ok (.aload_n 0, 1) := by decide +kernel
theorem dX12_reads_28 : decode cX12_reads 28 = .ok (.iconst 0, 1) := by decide +kernel
theorem dX12_reads_29 : decode cX12_reads 29 = .ok (.putfield 88, 3) := by decide +kernel
theorem dX12_reads_32 : decode cX12_reads 32 = .ok (.aload_n 0, 1) := by decide +kernel
theorem dX12_reads_33 : decode cX12_reads 33 = .ok (.invokevirtual 167, 3) := by decide +kernel
theorem dX12_reads_36 : decode cX12_reads 36 = .ok (.ifCond .ne 5, 3) := by decide +kernel
theorem dX12_reads_39 : decode cX12_reads 39 = .ok (.iconst 0, 1) := by decide +kernel
theorem dX12_reads_40 : decode cX12_reads 40 = .ok (.ireturn, 1) := by decide +kernel
theorem dX12_reads_41 : decode cX12_reads 41 = .ok (.iconst 1, 1) := by decide +kernel
theorem dX12_reads_42 : decode cX12_reads 42 = .ok (.istore_n 1, 1) := by decide +kernel
theorem dX12_reads_43 : decode cX12_reads 43 = .ok (.aload_n 0, 1) := by decide +kernel
theorem dX12_reads_44 : decode cX12_reads 44 = .ok (.invokevirtual 115, 3) := by decide +kernel
theorem dX12_reads_47 : decode cX12_reads 47 = .ok (.aload_n 0, 1) := by decide +kernel
theorem dX12_reads_48 : decode cX12_reads 48 = .ok (.getfield 100, 3) := by decide +kernel
theorem dX12_reads_51 : decode cX12_reads 51 = .ok (.ifCond .eq 73, 3) := by decide +kernel
theorem dX12_reads_54 : decode cX12_reads 54 = .ok (.aload_n 0, 1) := by decide +kernel
theorem dX12_reads_55 : decode cX12_reads 55 = .ok (.invokevirtual 170, 3) := by decide +kernel
theorem dX12_reads_58 : decode cX12_reads 58 = .ok (.istore_n 2, 1) := by decide +kernel
theorem dX12_reads_59 : decode cX12_reads 59 = .ok (.aload_n 0, 1) := by decide +kernel
theorem dX12_reads_60 : decode cX12_reads 60 = .ok (.iload_n 2, 1) := by decide +kernel
theorem dX12_reads_61 : decode cX12_reads 61 = .ok (.iload_n 1, 1) := by decide +kernel
theorem dX12_reads_62 : decode cX12_reads 62 = .ok (.if_icmp .lt 7, 3) := by decide +kernel
theorem dX12_reads_65 : decode cX12_reads 65 = .ok (.iconst 1, 1) := by decide +kernel
theorem dX12_reads_66 : decode cX12_reads 66 = .ok (.goto 4, 3) := by decide +kernel
theorem dX12_reads_69 : decode cX12_reads 69 = .ok (.iconst 0, 1) := by decide +kernel
theorem dX12_reads_70 : decode cX12_reads 70 = .ok (.invokevirtual 121, 3) := by decide +kernel
theorem dX12_reads_73 : decode cX12_reads 73 = .ok (.ifCond .eq 40, 3) := by decide +kernel
theorem dX12_reads_76 : decode cX12_reads 76 = .ok (.iload_n 2, 1) := by decide +kernel
theorem dX12_reads_77 : decode cX12_reads 77 = .ok (.iconst 1, 1) := by decide +kernel
theorem dX12_reads_78 : decode cX12_reads 78 = .ok (.if_icmp .ne 13, 3) := by decide +kernel
theorem dX12_reads_81 : decode cX12_reads 81 = .ok (.aload_n 0, 1) := by decide +kernel
theorem dX12_reads_82 : decode cX12_reads 82 = .ok (.invokevirtual 173, 3) := by decide +kernel
theorem dX12_reads_85 : decode cX12_reads 85 = .ok (.ifCond .eq 28, 3) := by decide +kernel
theorem dX12_reads_88 : decode cX12_reads 88 = .ok (.goto 27, 3) := by decide +kernel
theorem dX12_reads_91 : decode cX12_reads 91 = .ok (.iload_n 2, 1) := by decide +kernel
theorem dX12_reads_92 : decode cX12_reads 92 = .ok (.iconst 2, 1) := by decide +kernel
