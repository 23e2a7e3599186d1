theorem dX4_cornerIn_0 : decode cX4_cornerIn 0 = .ok (.iconst 0, 1) := by decide +kernel
theorem dX4_cornerIn_1 : decode cX4_cornerIn 1 = .ok (.istore_n 2, 1) := by decide +kernel
theorem dX4_cornerIn_2 : decode cX4_cornerIn 2 = .ok (.iload_n 2, 1) := by decide +kernel
theorem dX4_cornerIn_3 : decode cX4_cornerIn 3 = .ok (.aload_n 0, 1) := by decide +kernel
theorem dX4_cornerIn_4 : decode cX4_cornerIn 4 = .ok (.getfield 19, 3) := by decide +kernel
theorem dX4_cornerIn_7 : decode cX4_cornerIn 7 = .ok (.if_icmp .ge 24, 3) := by decide +kernel
theorem dX4_cornerIn_31 : decode cX4_cornerIn 31 = .ok (.iconst (-1), 1) := by decide +kernel
theorem dX4_cornerIn_32 : decode cX4_cornerIn 32 = .ok (.ireturn, 1) := by decide +kernel
theorem dX4_cornerIn_10 : decode cX4_cornerIn 10 = .ok (.aload_n 0, 1) := by decide +kernel
theorem dX4_cornerIn_11 : decode cX4_cornerIn 11 = .ok (.getfield 11, 3) := by decide +kernel
theorem dX4_cornerIn_14 : decode cX4_cornerIn 14 = .ok (.iload_n 2, 1) := by decide +kernel
theorem dX4_cornerIn_15 : decode cX4_cornerIn 15 = .ok (.iaload, 1) := by decide +kernel
theorem dX4_cornerIn_16 : decode cX4_cornerIn 16 = .ok (.bipush 8, 2) := by decide +kernel
theorem dX4_cornerIn_18 : decode cX4_cornerIn 18 = .ok (.irem, 1) := by decide +kernel
theorem dX4_cornerIn_19 : decode cX4_cornerIn 19 = .ok (.iload_n 1, 1) := by decide +kernel
theorem dX4_cornerIn_20 : decode cX4_cornerIn 20 = .ok (.if_icmp .ne 5, 3) := by decide +kernel
theorem dX4_cornerIn_25 : decode cX4_cornerIn 25 = .ok (.iinc 2 1, 3) := by decide +kernel
theorem dX4_cornerIn_28 : decode cX4_cornerIn 28 = .ok (.goto (-26), 3) := by decide +kernel
theorem dX4_cornerIn_23 : decode cX4_cornerIn 23 = .ok (.iload_n 2, 1) := by decide +kernel
theorem dX4_cornerIn_24 : decode cX4_cornerIn 24 = .ok (.ireturn, 1) := by decide +kernel
theorem dX4_isCorner_0 : decode cX4_isCorner 0 = .ok (.aload_n 0, 1) := by decide +kernel
theorem dX4_isCorner_1 : decode cX4_isCorner 1 = .ok (.iload_n 1, 1) := by decide +kernel
theorem dX4_isCorner_2 : decode cX4_isCorner 2 = .ok (.bipush 8, 2) := by decide +kernel
theorem dX4_isCorner_4 : decode cX4_isCorner 4 = .ok (.irem, 1) := by decide +kernel
set_option maxRecDepth 20000 in
theorem ggX4_isCorner_X4_cornerIn : GoodIn wsX4_isCorner wsX4_cornerIn := goodIn_r _ [6, 7, 1, 8, 9, 10, 11, 12] (by decide +kernel) (by decide +kernel)
set_option maxRecDepth 20000 in
theorem gX4_isCorner_X4_cornerIn : GoodIn wsX4_isCorner (wsV RX4 72 RX4 yX4_cornerIn wsX4_cornerIn) := goodIn_app (goodIn_of _ (by decide +kernel)) ggX4_isCorner_X4_cornerIn
theorem dX4_isCorner_5 : decode cX4_isCorner 5 = .ok (.invokevirtual 72, 3) := by decide +kernel
theorem dX4_isCorner_8 : decode cX4_isCorner 8 = .ok (.istore_n 2, 1) := by decide +kernel
theorem dX4_isCorner_9 : decode cX4_isCorner 9 = .ok (.iload_n 2, 1) := by decide +kernel
theorem dX4_isCorner_10 : decode cX4_isCorner 10 = .ok (.ifCond .lt 17, 3) := by decide +kernel
theorem dX4_isCorner_27 : decode cX4_isCorner 27 = .ok (.iconst 0, 1) := by decide +kernel
theorem dX4_isCorner_28 : decode cX4_isCorner 28 = .ok (.ireturn, 1) := by decide +kernel
theorem dX4_isCorner_13 : decode cX4_isCorner 13 = .ok (.aload_n 0, 1) := by decide +kernel
theorem dX4_isCorner_14 : decode cX4_isCorner 14 = .ok (.getfield 11, 3) := by decide +kernel
theorem dX4_isCorner_17 : decode cX4_isCorner 17 = .ok (.iload_n 2, 1) := by decide +kernel
theorem dX4_isCorner_18 : decode cX4_isCorner 18 = .ok (.iaload, 1) := by decide +kernel
theorem dX4_isCorner_19 : decode cX4_isCorner 19 = .ok (.iload_n 1, 1) := by decide +kernel
theorem dX4_isCorner_20 : decode cX4_isCorner 20 = .ok (.if_icmp .ne 7, 3) := by decide +kernel
theorem dX4_isCorner_23 : decode cX4_isCorner 23 = .ok (.iconst 1, 1) := by decide +kernel
theorem dX4_isCorner_24 : decode cX4_isCorner 24 = .ok (.goto 4, 3) := by decide +kernel
theorem dX4_whichGoes_0 : decode cX4_whichGoes 0 = .ok (.iconst 0, 1) := by decide +kernel
theorem dX4_whichGoes_1 : decode cX4_whichGoes 1 = .ok (.istore_n 1, 1) := by decide +kernel
theorem dX4_whichGoes_2 : decode cX4_whichGoes 2 = .ok (.iload_n 1, 1) := by decide +kernel
theorem dX4_whichGoes_3 : decode cX4_whichGoes 3 = .ok (.aload_n 0, 1) := by decide +kernel
theorem dX4_whichGoes_4 : decode cX4_whichGoes 4 = .ok (.getfield 19, 3) := by decide +kernel
theorem dX4_whichGoes_7 : decode cX4_whichGoes 7 = .ok (.if_icmp .ge 20, 3) := by decide +kernel
theorem dX4_whichGoes_27 : decode cX4_whichGoes 27 = .ok (.iconst 0, 1) := by decide +kernel
theorem dX4_whichGoes_28 : decode cX4_whichGoes 28 = .ok (.ireturn, 1) := by decide +kernel
theorem dX4_whichGoes_10 : decode cX4_whichGoes 10 = .ok (.aload_n 0, 1) := by decide +kernel
theorem dX4_whichGoes_11 : decode cX4_whichGoes 11 = .ok (.getfield 15, 3) := by decide +kernel
theorem dX4_whichGoes_14 : decode cX4_whichGoes 14 = .ok (.iload_n 1, 1) := by decide +kernel
theorem dX4_whichGoes_15 : decode cX4_whichGoes 15 = .ok (.baload, 1) := by decide +kernel
theorem dX4_whichGoes_16 : decode cX4_whichGoes 16 = .ok (.ifCond .eq 5, 3) := by decide +kernel
theorem dX4_whichGoes_21 : decode cX4_whichGoes 21 = .ok (.iinc 1 1, 3) := by decide +kernel
theorem dX4_whichGoes_24 : decode cX4_whichGoes 24 = .ok (.goto (-22), 3) := by decide +kernel
theorem dX4_whichGoes_19 : decode cX4_whichGoes 19 = .ok (.iload_n 1, 1) := by decide +kernel
theorem dX4_whichGoes_20 : decode cX4_whichGoes 20 = .ok (.ireturn, 1) := by decide +kernel
theorem dX4_mirrored_0 : decode cX4_mirrored 0 = .ok (.iload_n 0, 1) := by decide +kernel
theorem dX4_mirrored_1 : decode cX4_mirrored 1 = .ok (.iload_n 0, 1) := by decide +kernel
theorem dX4_mirrored_2 : decode cX4_mirrored 2 = .ok (.bipush 8, 2) := by decide +kernel
theorem dX4_mirrored_4 : decode cX4_mirrored 4 = .ok (.irem, 1) := by decide +kernel
theorem dX4_mirrored_5 : decode cX4_mirrored 5 = .ok (.isub, 1) := by decide +kernel
theorem dX4_mirrored_6 : decode cX4_mirrored 6 = .ok (.bipush 7, 2) := by decide +kernel
theorem dX4_mirrored_8 : decode cX4_mirrored 8 = .ok (.iload_n 0, 1) := by decide +kernel
theorem dX4_mirrored_9 : decode cX4_mirrored 9 = .ok (.bipush 8, 2) := by decide +kernel
theorem dX4_mirrored_11 : decode cX4_mirrored 11 = .ok (.irem, 1) := by decide +kernel
theorem dX4_mirrored_12 : decode cX4_mirrored 12 = .ok (.isub, 1) := by decide +kernel
theorem dX4_mirrored_13 : decode cX4_mirrored 13 = .ok (.iadd, 1) := by decide +kernel
theorem dX4_mirrored_14 : decode cX4_mirrored 14 = .ok (.ireturn, 1) := by decide +kernel
theorem dX4_remove_0 : decode cX4_remove 0 = .ok (.iload_n 1, 1) := by decide +kernel
theorem dX4_remove_1 : decode cX4_remove 1 = .ok (.iconst 1, 1) := by decide +kernel
theorem dX4_remove_2 : decode cX4_remove 2 = .ok (.iadd, 1) := by decide +kernel
theorem dX4_remove_3 : decode cX4_remove 3 = .ok (.istore_n 2, 1) := by decide +kernel
theorem dX4_remove_4 : decode cX4_remove 4 = .ok (.iload_n 2, 1) := by decide +kernel
theorem dX4_remove_5 : decode cX4_remove 5 = .ok (.aload_n 0, 1) := by decide +kernel
theorem dX4_remove_6 : decode cX4_remove 6 = .ok (.getfield 19, 3) := by decide +kernel
theorem dX4_remove_9 : decode cX4_remove 9 = .ok (.if_icmp .ge 37, 3) := by decide +kernel
theorem dX4_remove_46 : decode cX4_remove 46 = .ok (.aload_n 0, 1) := by decide +kernel
theorem dX4_remove_47 : decode cX4_remove 47 = .ok (.dup, 1) := by decide +kernel
theorem dX4_remove_48 : decode cX4_remove 48 = .ok (.getfield 19, 3) := by decide +kernel
theorem dX4_remove_51 : decode cX4_remove 51 = .ok (.iconst 1, 1) := by decide +kernel
theorem dX4_remove_52 : decode cX4_remove 52 = .ok (.isub, 1) := by decide +kernel
theorem dX4_remove_53 : decode cX4_remove 53 = .ok (.putfield 19, 3) := by decide +kernel
theorem dX4_remove_56 : decode cX4_remove 56 = .ok (.return_, 1) := by decide +kernel
theorem dX4_remove_12 : decode cX4_remove 12 = .ok (.aload_n 0, 1) := by decide +kernel
theorem dX4_remove_13 : decode cX4_remove 13 = .ok (.getfield 11, 3) := by decide +kernel
theorem dX4_remove_16 : decode cX4_remove 16 = .ok (.iload_n 2, 1) := by decide +kernel
theorem dX4_remove_17 : decode cX4_remove 17 = .ok (.iconst 1, 1) := by decide +kernel
theorem dX4_remove_18 : decode cX4_remove 18 = .ok (.isub, 1) := by decide +kernel
theorem dX4_remove_19 : decode cX4_remove 19 = .ok (.aload_n 0, 1) := by decide +kernel
theorem dX4_remove_20 : decode cX4_remove 20 = .ok (.getfield 11, 3) := by decide +kernel
theorem dX4_remove_23 : decode cX4_remove 23 = .ok (.iload_n 2, 1) := by decide +kernel
theorem dX4_remove_24 : decode cX4_remove 24 = .ok (.iaload, 1) := by decide +kernel
theorem dX4_remove_25 : decode cX4_remove 25 = .ok (.iastore, 1) := by decide +kernel
theorem dX4_remove_26 : decode cX4_remove 26 = .ok (.aload_n 0, 1) := by decide +kernel
theorem dX4_remove_27 : decode cX4_remove 27 = .ok (.getfield 15, 3) := by decide +kernel
theorem dX4_remove_30 : decode cX4_remove 30 = .ok (.iload_n 2, 1) := by decide +kernel
theorem dX4_remove_31 : decode cX4_remove 31 = .ok (.iconst 1, 1) := by decide +kernel
theorem dX4_remove_32 : decode cX4_remove 32 = .ok (.isub, 1) := by decide +kernel
theorem dX4_remove_33 : decode cX4_remove 33 = .ok (.aload_n 0, 1) := by decide +kernel
theorem dX4_remove_34 : decode cX4_remove 34 = .ok (.getfield 15, 3) := by decide +kernel
theorem dX4_remove_37 : decode cX4_remove 37 = .ok (.iload_n 2, 1) := by decide +kernel
theorem dX4_remove_38 : decode cX4_remove 38 = .ok (.baload, 1) := by decide +kernel
theorem dX4_remove_39 : decode cX4_remove 39 = .ok (.bastore, 1) := by decide +kernel
theorem dX4_remove_40 : decode cX4_remove 40 = .ok (.iinc 2 1, 3) := by decide +kernel
theorem dX4_remove_43 : decode cX4_remove 43 = .ok (.goto (-39), 3) := by decide +kernel
theorem dX4_add_0 : decode cX4_add 0 = .ok (.aload_n 0, 1) := by decide +kernel
theorem dX4_add_1 : decode cX4_add 1 = .ok (.iload_n 1, 1) := by decide +kernel
theorem dX4_add_2 : decode cX4_add 2 = .ok (.bipush 8, 2) := by decide +kernel
theorem dX4_add_4 : decode cX4_add 4 = .ok (.irem, 1) := by decide +kernel
set_option maxRecDepth 20000 in
theorem ggX4_add_X4_cornerIn : GoodIn wsX4_add wsX4_cornerIn := goodIn_r _ [8, 1, 2, 13, 14, 15, 16, 17] (by decide +kernel) (by decide +kernel)
set_option maxRecDepth 20000 in
theorem gX4_add_X4_cornerIn : GoodIn wsX4_add (wsV RX4 72 RX4 yX4_cornerIn wsX4_cornerIn) := goodIn_app (goodIn_of _ (by decide +kernel)) ggX4_add_X4_cornerIn
theorem dX4_add_5 : decode cX4_add 5 = .ok (.invokevirtual 72, 3) := by decide +kernel
theorem dX4_add_8 : decode cX4_add 8 = .ok (.istore_n 3, 1) := by decide +kernel
theorem dX4_add_9 : decode cX4_add 9 = .ok (.iload_n 3, 1) := by decide +kernel
theorem dX4_add_10 : decode cX4_add 10 = .ok (.ifCond .lt 8, 3) := by decide +kernel
theorem dX4_add_18 : decode cX4_add 18 = .ok (.aload_n 0, 1) := by decide +kernel
theorem dX4_add_19 : decode cX4_add 19 = .ok (.getfield 19, 3) := by decide +kernel
theorem dX4_add_22 : decode cX4_add 22 = .ok (.bipush 8, 2) := by decide +kernel
theorem dX4_add_24 : decode cX4_add 24 = .ok (.if_icmp .ge 33, 3) := by decide +kernel
theorem dX4_add_27 : decode cX4_add 27 = .ok (.aload_n 0, 1) := by decide +kernel
theorem dX4_add_28 : decode cX4_add 28 = .ok (.getfield 11, 3) := by decide +kernel
theorem dX4_add_31 : decode cX4_add 31 = .ok (.aload_n 0, 1) := by decide +kernel
theorem dX4_add_32 : decode cX4_add 32 = .ok (.getfield 19, 3) := by decide +kernel
theorem dX4_add_35 : decode cX4_add 35 = .ok (.iload_n 1, 1) := by decide +kernel
theorem dX4_add_36 : decode cX4_add 36 = .ok (.iastore, 1) := by decide +kernel
theorem dX4_add_37 : decode cX4_add 37 = .ok (.aload_n 0, 1) := by decide +kernel
theorem dX4_add_38 : decode cX4_add 38 = .ok (.getfield 15, 3) := by decide +kernel
theorem dX4_add_41 : decode cX4_add 41 = .ok (.aload_n 0, 1) := by decide +kernel
theorem dX4_add_42 : decode cX4_add 42 = .ok (.getfield 19, 3) := by decide +kernel
theorem dX4_add_45 : decode cX4_add 45 = .ok (.iload_n 2, 1) := by decide +kernel
theorem dX4_add_46 : decode cX4_add 46 = .ok (.bastore, 1) := by decide +kernel
theorem dX4_add_47 : decode cX4_add 47 = .ok (.aload_n 0, 1) := by decide +kernel
theorem dX4_add_48 : decode cX4_add 48 = .ok (.dup, 1) := by decide +kernel
theorem dX4_add_49 : decode cX4_add 49 = .ok (.getfield 19, 3) := by decide +kernel
theorem dX4_add_52 : decode cX4_add 52 = .ok (.iconst 1, 1) := by decide +kernel
theorem dX4_add_53 : decode cX4_add 53 = .ok (.iadd, 1) := by decide +kernel
theorem dX4_add_54 : decode cX4_add 54 = .ok (.putfield 19, 3) := by decide +kernel
theorem dX4_add_57 : decode cX4_add 57 = .ok (.return_, 1) := by decide +kernel
theorem dX4_add_13 : decode cX4_add 13 = .ok (.aload_n 0, 1) := by decide +kernel
theorem dX4_add_14 : decode cX4_add 14 = .ok (.iload_n 3, 1) := by decide +kernel
set_option maxRecDepth 20000 in
theorem ggX4_add_X4_remove : GoodIn wsX4_add wsX4_remove := goodIn_r _ [12, 1, 2, 3, 13, 14, 15, 16, 17] (by decide +kernel) (by decide +kernel)
set_option maxRecDepth 20000 in
theorem gX4_add_X4_remove : GoodIn wsX4_add (wsV RX4 68 RX4 yX4_remove wsX4_remove) := goodIn_app (goodIn_of _ (by decide +kernel)) ggX4_add_X4_remove
theorem dX4_add_15 : decode cX4_add 15 = .ok (.invokevirtual 68, 3) := by decide +kernel
theorem dX4_become_0 : decode cX4_become 0 = .ok (.aload_n 0, 1) := by decide +kernel
theorem dX4_become_1 : decode cX4_become 1 = .ok (.aload_n 1, 1) := by decide +kernel
theorem dX4_become_2 : decode cX4_become 2 = .ok (.getfield 19, 3) := by decide +kernel
theorem dX4_become_5 : decode cX4_become 5 = .ok (.putfield 19, 3) := by decide +kernel
theorem dX4_become_8 : decode cX4_become 8 = .ok (.aload_n 1, 1) := by decide +kernel
theorem dX4_become_9 : decode cX4_become 9 = .ok (.getfield 11, 3) := by decide +kernel
theorem dX4_become_12 : decode cX4_become 12 = .ok (.iconst 0, 1) := by decide +kernel
theorem dX4_become_13 : decode cX4_become 13 = .ok (.aload_n 0, 1) := by decide +kernel
theorem dX4_become_14 : decode cX4_become 14 = .ok (.getfield 11, 3) := by decide +kernel
theorem dX4_become_17 : decode cX4_become 17 = .ok (.iconst 0, 1) := by decide +kernel
theorem dX4_become_18 : decode cX4_become 18 = .ok (.bipush 8, 2) := by decide +kernel
theorem dX4_become_20 : decode cX4_become 20 = .ok (.invokestatic 41, 3) := by decide +kernel
theorem dX4_become_23 : decode cX4_become 23 = .ok (.aload_n 1, 1) := by decide +kernel
theorem dX4_become_24 : decode cX4_become 24 = .ok (.getfield 15, 3) := by decide +kernel
theorem dX4_become_27 : decode cX4_become 27 = .ok (.iconst 0, 1) := by decide +kernel
theorem dX4_become_28 : decode cX4_become 28 = .ok (.aload_n 0, 1) := by decide +kernel
theorem dX4_become_29 : decode cX4_become 29 = .ok (.getfield 15, 3) := by decide +kernel
theorem dX4_become_32 : decode cX4_become 32 = .ok (.iconst 0, 1) := by decide +kernel
theorem dX4_become_33 : decode cX4_become 33 = .ok (.bipush 8, 2) := by decide +kernel
theorem dX4_become_35 : decode cX4_become 35 = .ok (.invokestatic 41, 3) := by decide +kernel
theorem dX4_become_38 : decode cX4_become 38 = .ok (.aload_n 1, 1) := by decide +kernel
theorem dX4_become_39 : decode cX4_become 39 = .ok (.getfield 23, 3) := by decide +kernel
theorem dX4_become_42 : decode cX4_become 42 = .ok (.iconst 0, 1) := by decide +kernel
theorem dX4_become_43 : decode cX4_become 43 = .ok (.aload_n 0, 1) := by decide +kernel
theorem dX4_become_44 : decode cX4_become 44 = .ok (.getfield 23, 3) := by decide +kernel
theorem dX4_become_47 : decode cX4_become 47 = .ok (.iconst 0, 1) := by decide +kernel
theorem dX4_become_48 : decode cX4_become 48 = .ok (.bipush 8, 2) := by decide +kernel
theorem dX4_become_50 : decode cX4_become 50 = .ok (.invokestatic 41, 3) := by decide +kernel
theorem dX4_become_53 : decode cX4_become 53 = .ok (.aload_n 1, 1) := by decide +kernel
theorem dX4_become_54 : decode cX4_become 54 = .ok (.getfield 26, 3) := by decide +kernel
theorem dX4_become_57 : decode cX4_become 57 = .ok (.iconst 0, 1) := by decide +kernel
theorem dX4_become_58 : decode cX4_become 58 = .ok (.aload_n 0, 1) := by decide +kernel
theorem dX4_become_59 : decode cX4_become 59 = .ok (.getfield 26, 3) := by decide +kernel
theorem dX4_become_62 : decode cX4_become 62 = .ok (.iconst 0, 1) := by decide +kernel
theorem dX4_become_63 : decode cX4_become 63 = .ok (.bipush 8, 2) := by decide +kernel
theorem dX4_become_65 : decode cX4_become 65 = .ok (.invokestatic 41, 3) := by decide +kernel
theorem dX4_become_68 : decode cX4_become 68 = .ok (.return_, 1) := by decide +kernel
theorem dX4_ownerOf_0 : decode cX4_ownerOf 0 = .ok (.iload_n 1, 1) := by decide +kernel
theorem dX4_ownerOf_1 : decode cX4_ownerOf 1 = .ok (.bipush 8, 2) := by decide +kernel
theorem dX4_ownerOf_3 : decode cX4_ownerOf 3 = .ok (.irem, 1) := by decide +kernel
theorem dX4_ownerOf_4 : decode cX4_ownerOf 4 = .ok (.istore_n 2, 1) := by decide +kernel
theorem dX4_ownerOf_5 : decode cX4_ownerOf 5 = .ok (.iload_n 1, 1) := by decide +kernel
theorem dX4_ownerOf_6 : decode cX4_ownerOf 6 = .ok (.bipush 8, 2) := by decide +kernel
theorem dX4_ownerOf_8 : decode cX4_ownerOf 8 = .ok (.idiv, 1) := by decide +kernel
theorem dX4_ownerOf_9 : decode cX4_ownerOf 9 = .ok (.istore_n 3, 1) := by decide +kernel
theorem dX4_ownerOf_10 : decode cX4_ownerOf 10 = .ok (.iload_n 3, 1) := by decide +kernel
theorem dX4_ownerOf_11 : decode cX4_ownerOf 11 = .ok (.aload_n 0, 1) := by decide +kernel
theorem dX4_ownerOf_12 : decode cX4_ownerOf 12 = .ok (.getfield 23, 3) := by decide +kernel
theorem dX4_ownerOf_15 : decode cX4_ownerOf 15 = .ok (.iload_n 2, 1) := by decide +kernel
theorem dX4_ownerOf_16 : decode cX4_ownerOf 16 = .ok (.iaload, 1) := by decide +kernel
theorem dX4_ownerOf_17 : decode cX4_ownerOf 17 = .ok (.if_icmp .ge 7, 3) := by decide +kernel
theorem dX4_ownerOf_24 : decode cX4_ownerOf 24 = .ok (.iload_n 3, 1) := by decide +kernel
theorem dX4_ownerOf_25 : decode cX4_ownerOf 25 = .ok (.aload_n 0, 1) := by decide +kernel
theorem dX4_ownerOf_26 : decode cX4_ownerOf 26 = .ok (.getfield 26, 3) := by decide +kernel
theorem dX4_ownerOf_29 : decode cX4_ownerOf 29 = .ok (.iload_n 2, 1) := by decide +kernel
theorem dX4_ownerOf_30 : decode cX4_ownerOf 30 = .ok (.iaload, 1) := by decide +kernel
theorem dX4_ownerOf_31 : decode cX4_ownerOf 31 = .ok (.if_icmp .lt 7, 3) := by decide +kernel
theorem dX4_ownerOf_38 : decode cX4_ownerOf 38 = .ok (.iconst (-1), 1) := by decide +kernel
theorem dX4_ownerOf_39 : decode cX4_ownerOf 39 = .ok (.ireturn, 1) := by decide +kernel
theorem dX4_ownerOf_34 : decode cX4_ownerOf 34 = .ok (.iconst 1, 1) := by decide +kernel
theorem dX4_ownerOf_35 : decode cX4_ownerOf 35 = .ok (.goto 4, 3) := by decide +kernel
theorem dX4_ownerOf_20 : decode cX4_ownerOf 20 = .ok (.iconst 0, 1) := by decide +kernel
theorem dX4_ownerOf_21 : decode cX4_ownerOf 21 = .ok (.goto 18, 3) := by decide +kernel
set_option maxRecDepth 100000 in
set_option maxHeartbeats 4000000 in
theorem c_X4_cornerIn {E : XE} {B N : Nat} {v : Nat → va_E} {c n : Nat} {x : Int} {g h : Nat → Int} {l : Cor} (hc0 : Cel N v c (.inr (4, [.ref (B + (c + 1)), .ref (B + (c + 2)), .int (zI (n : Int)), .ref (B + (c + 3)), .ref (B + (c + 4))]))) (hc1 : Cel N v (c + 1) (iarr E 8 g)) (hq0 : LR g h l) (hq1 : n = l.length ∧ n ≤ 8) (hq2 : CorOk l) (hq3 : (-2147483648 ≤ x ∧ x ≤ 2147483647)) : gM yX4_cornerIn wsX4_cornerIn ({ frames := 0, cells := 0, slots := 0, locals := 0 }) E B N v [.ref (B + c), .int (zI x)] (po0 N (fun ρ v' => ρ = some (.int (zI (cinA x l))) ∧ v = v')) := by
  refine x_met (nm := "cornerIn") (by decide +kernel) rfl (Nat.le_of_ble_eq_true rfl) rfl (fun Γ K KR hnL hnm => ?_)
  show XW Γ N v [(0, .ref (B + c)), (1, .int (zI x))] 0 0 0 []
  refine x_iconst (pc := 0) K dX4_cornerIn_0 ?_
  refine x_istore_n (pc := 1) K (L' := [(2, .int (zI 0)), (0, .ref (B + c)), (1, .int (zI x))]) hnL rfl (by decide) rfl dX4_cornerIn_1 ?_
  have LOOP2 : ∀ (n_2 : Nat) (i : Nat), (i ≤ n) → (cinA x l = cinG x (l.drop i) i) → (n - i) < n_2 → XW Γ N v [(0, .ref (B + c)), (1, .int (zI x)), (2, .int (zI (i : Int)))] 0 0 2 [] := by
    intro n_2
    induction n_2 with
    | zero =>
      intro i hi2_0 hi2_1 hm_2
      exfalso; omega
    | succ n_2 ih2 =>
      intro i hi2_0 hi2_1 hm_2
      refine x_iload_n (pc := 2) 2 K rfl rfl dX4_cornerIn_2 ?_
      refine x_aload_n (pc := 3) 0 K rfl rfl dX4_cornerIn_3 ?_
      refine x_get (pc := 4) (C := RX4) (T := TX4) (n := 5) (ci := 4) (idx := 19) (ref := "BorderBeds$Line") (x := .int (zI (n : Int)))  K hc0 rfl (by decide +kernel) 2 (by decide) (by decide +kernel) rfl rfl dX4_cornerIn_4 ?_
      refine x_icmp_ge (pc := 7) (tgt := 31) K (by omega) (by omega) dX4_cornerIn_7 (by decide) (fun h_7 => ?_) (fun h_7 => ?_)
      · skip
        refine x_iconst (pc := 31) K dX4_cornerIn_31 ?_
        refine x_iret (pc := 32) K KR (by omega) (Nat.le_of_ble_eq_true rfl) (Nat.le_of_ble_eq_true rfl) dX4_cornerIn_32 ?_
        have hi : i = l.length := by omega
        exact ⟨rfl, ri (by rw [hi2_1, hi, cinG_end]), rfl⟩
      · skip
        have hi : i < l.length := by omega
        have e15 := (hq0.1 i hi).1
        have b15 := hq2.at hi
        have o15 := cinG_at (x := x) hi
        rw [← e15] at b15 o15
        refine x_aload_n (pc := 10) 0 K rfl rfl dX4_cornerIn_10 ?_
        refine x_get (pc := 11) (C := RX4) (T := TX4) (n := 5) (ci := 4) (idx := 11) (ref := "BorderBeds$Line") (x := .ref (B + (c + 1)))  K hc0 rfl (by decide +kernel) 0 (by decide) (by decide +kernel) rfl rfl dX4_cornerIn_11 ?_
        refine x_iload_n (pc := 14) 2 K rfl rfl dX4_cornerIn_14 ?_
        refine x_iald (pc := 15) i K hc1 rfl (by omega) (by decide) dX4_cornerIn_15 ?_
        refine x_bipush (pc := 16) K (by decide) dX4_cornerIn_16 ?_
        refine x_irem (pc := 18) K (by omega) (by omega) dX4_cornerIn_18 ?_
        refine x_iload_n (pc := 19) 1 K rfl rfl dX4_cornerIn_19 ?_
        refine x_icmp_ne (pc := 20) (tgt := 25) K (by omega) (by omega) dX4_cornerIn_20 (by decide) (fun h_20 => ?_) (fun h_20 => ?_)
        · skip
          refine x_iinc (pc := 25) (L' := [(2, .int (zI ((i : Int) + 1))), (0, .ref (B + c)), (1, .int (zI x))]) 2 K hnL rfl (by decide) rfl dX4_cornerIn_25 ?_
          refine x_goto (pc := 28) (tgt := 2) K dX4_cornerIn_28 (by decide) ?_
          refine x_sub (L' := [(0, .ref (B + c)), (1, .int (zI x)), (2, .int (zI ((i : Int) + 1)))]) [1, 2, 0] rfl ?_
          exact ih2 (i + 1) (by omega) (by rw [hi2_1, o15, if_neg (by omega)]) (by omega)
        · skip
          refine x_iload_n (pc := 23) 2 K rfl rfl dX4_cornerIn_23 ?_
          refine x_iret (pc := 24) K KR (by omega) (Nat.le_of_ble_eq_true rfl) (Nat.le_of_ble_eq_true rfl) dX4_cornerIn_24 ?_
          exact ⟨rfl, ri (by rw [hi2_1, o15, if_pos (by omega)]), rfl⟩
  refine x_sub (L' := [(0, .ref (B + c)), (1, .int (zI x)), (2, .int (zI 0))]) [1, 2, 0] rfl ?_
  exact LOOP2 (_) 0 (by omega) (by rfl) (Nat.lt_succ_self _)

set_option maxRecDepth 100000 in
set_option maxHeartbeats 4000000 in
theorem c_X4_isCorner {E : XE} {B N : Nat} {v : Nat → va_E} {c n : Nat} {cell : Int} {g h : Nat → Int} {l : Cor} (hc0 : Cel N v c (.inr (4, [.ref (B + (c + 1)), .ref (B + (c + 2)), .int (zI (n : Int)), .ref (B + (c + 3)), .ref (B + (c + 4))]))) (hc1 : Cel N v (c + 1) (iarr E 8 g)) (hq0 : LR g h l) (hq1 : n = l.length ∧ n ≤ 8) (hq2 : CorOk l) (hq3 : 0 ≤ cell ∧ cell ≤ 47) : gM yX4_isCorner wsX4_isCorner ({ frames := 1, cells := 0, slots := 0, locals := 22 }) E B N v [.ref (B + c), .int (zI cell)] (po0 N (fun ρ v' => ρ = some (.int (zI (isCorA l cell))) ∧ v = v')) := by
  refine x_met (nm := "isCorner") (by decide +kernel) rfl (Nat.le_of_ble_eq_true rfl) rfl (fun Γ K KR hnL hnm => ?_)
  show XW Γ N v [(0, .ref (B + c)), (1, .int (zI cell))] 0 0 0 []
  refine x_aload_n (pc := 0) 0 K rfl rfl dX4_isCorner_0 ?_
  refine x_iload_n (pc := 1) 1 K rfl rfl dX4_isCorner_1 ?_
  refine x_bipush (pc := 2) K (by decide) dX4_isCorner_2 ?_
  refine x_irem (pc := 4) K (by omega) (by omega) dX4_isCorner_4 ?_
  refine x_callV (pc := 5) (C := RX4) (T := TX4) (n := 5) (ci := 4) (As := [.int (zI (cell % 8))]) K (c_X4_cornerIn (E := E) (B := B) (N := N)   hc0 hc1 hq0 hq1 hq2 (by omega)) gX4_isCorner_X4_cornerIn rfl (na := 1) (by decide +kernel) rfl ⟨(Nat.le_of_ble_eq_true rfl), (Nat.le_of_ble_eq_true rfl)⟩ hc0 rfl (st := []) rfl (Nat.le_of_ble_eq_true rfl) ⟨(Nat.le_of_ble_eq_true rfl), (Nat.le_of_ble_eq_true rfl)⟩ dX4_isCorner_5 (fun r5 N5 w5 hpo5 hN5 => ?_)
  obtain ⟨rfl, rfl, rfl⟩ := hpo5
  refine x_st (st' := [.int (zI (cinA (cell % 8) l))]) rfl ?_
  have hrg5 := cinA_rng (cell % 8) l
  refine x_nm (fun z1 hz1 => ?_)
  refine x_istore_n (pc := 8) K (L' := [(2, .int (zI z1)), (0, .ref (B + c)), (1, .int (zI cell))]) hnL rfl (by decide) rfl dX4_isCorner_8 ?_
  refine x_iload_n (pc := 9) 0 K rfl rfl dX4_isCorner_9 ?_
  refine x_if_lt (pc := 10) (tgt := 27) K (by omega) dX4_isCorner_10 (by decide) (fun h_10 => ?_) (fun h_10 => ?_)
  · skip
    have hnone : ∀ q ∈ l, q.1 % 8 ≠ cell % 8 := by
      rcases cinA_spec (cell % 8) l with ⟨-, h⟩ | ⟨k, hk, h, -⟩
      · exact h
      · exfalso; omega
    refine x_iconst (pc := 27) K dX4_isCorner_27 ?_
    refine x_zret (pc := 28) K KR (by omega) (Nat.le_of_ble_eq_true rfl) (Nat.le_of_ble_eq_true rfl) rfl dX4_isCorner_28 ?_
    first | exact ⟨rfl, ri (isCorA_no (fun q hq e => hnone q hq (by rw [e]))).symm, rfl⟩ | exact ⟨rfl, ri (isCorA_no (fun q hq e => by obtain ⟨j, hj, rfl⟩ := List.mem_iff_getElem.mp hq; have := cor_one hq2 hj hk (by omega); subst this; omega)).symm, rfl⟩
  · skip
    obtain ⟨k, hk, hck, hk8⟩ : ∃ (k : Nat) (hk : k < l.length), cinA (cell % 8) l = (k : Int) ∧ (l[k]).1 % 8 = cell % 8 := by
      rcases cinA_spec (cell % 8) l with ⟨h, -⟩ | h
      · exfalso; omega
      · exact h
    have e18 := (hq0.1 k hk).1
    have b18 := hq2.at hk
    rw [← e18] at b18 hk8
    refine x_L (L' := [(2, .int (zI (k : Int))), (0, .ref (B + c)), (1, .int (zI cell))]) (by rw [show z1 = (k : Int) by omega]) ?_
    refine x_aload_n (pc := 13) 1 K rfl rfl dX4_isCorner_13 ?_
    refine x_get (pc := 14) (C := RX4) (T := TX4) (n := 5) (ci := 4) (idx := 11) (ref := "BorderBeds$Line") (x := .ref (B + (c + 1)))  K hc0 rfl (by decide +kernel) 0 (by decide) (by decide +kernel) rfl rfl dX4_isCorner_14 ?_
    refine x_iload_n (pc := 17) 0 K rfl rfl dX4_isCorner_17 ?_
    refine x_iald (pc := 18) k K hc1 rfl (by omega) (by decide) dX4_isCorner_18 ?_
    refine x_iload_n (pc := 19) 2 K rfl rfl dX4_isCorner_19 ?_
    refine x_icmp_ne (pc := 20) (tgt := 27) K (by omega) (by omega) dX4_isCorner_20 (by decide) (fun h_20 => ?_) (fun h_20 => ?_)
    · skip
      refine x_iconst (pc := 27) K dX4_isCorner_27 ?_
      refine x_zret (pc := 28) K KR (by omega) (Nat.le_of_ble_eq_true rfl) (Nat.le_of_ble_eq_true rfl) rfl dX4_isCorner_28 ?_
      first | exact ⟨rfl, ri (isCorA_no (fun q hq e => hnone q hq (by rw [e]))).symm, rfl⟩ | exact ⟨rfl, ri (isCorA_no (fun q hq e => by obtain ⟨j, hj, rfl⟩ := List.mem_iff_getElem.mp hq; have := cor_one hq2 hj hk (by omega); subst this; omega)).symm, rfl⟩
    · skip
      refine x_iconst (pc := 23) K dX4_isCorner_23 ?_
      refine x_goto (pc := 24) (tgt := 28) K dX4_isCorner_24 (by decide) ?_
      refine x_zret (pc := 28) K KR (by omega) (Nat.le_of_ble_eq_true rfl) (Nat.le_of_ble_eq_true rfl) rfl dX4_isCorner_28 ?_
      exact ⟨rfl, ri (isCorA_yes hk (by omega)).symm, rfl⟩

set_option maxRecDepth 100000 in
set_option maxHeartbeats 4000000 in
theorem c_X4_whichGoes {E : XE} {B N : Nat} {v : Nat → va_E} {c n : Nat} {g h : Nat → Int} {l : Cor} (hc0 : Cel N v c (.inr (4, [.ref (B + (c + 1)), .ref (B + (c + 2)), .int (zI (n : Int)), .ref (B + (c + 3)), .ref (B + (c + 4))]))) (hc1 : Cel N v (c + 2) (barr E 8 h)) (hq0 : LR g h l) (hq1 : n = l.length ∧ n ≤ 8) : gM yX4_whichGoes wsX4_whichGoes ({ frames := 0, cells := 0, slots := 0, locals := 0 }) E B N v [.ref (B + c)] (po0 N (fun ρ v' => ρ = some (.int (zI ((outA l : Nat) : Int))) ∧ v = v')) := by
  refine x_met (nm := "whichGoes") (by decide +kernel) rfl (Nat.le_of_ble_eq_true rfl) rfl (fun Γ K KR hnL hnm => ?_)
  show XW Γ N v [(0, .ref (B + c))] 0 0 0 []
  refine x_iconst (pc := 0) K dX4_whichGoes_0 ?_
  refine x_istore_n (pc := 1) K (L' := [(1, .int (zI 0)), (0, .ref (B + c))]) hnL rfl (by decide) rfl dX4_whichGoes_1 ?_
  have LOOP2 : ∀ (n_2 : Nat) (i : Nat), (i ≤ n) → (outA l = outG (l.drop i) i) → (n - i) < n_2 → XW Γ N v [(0, .ref (B + c)), (1, .int (zI (i : Int)))] 0 0 2 [] := by
    intro n_2
    induction n_2 with
    | zero =>
      intro i hi2_0 hi2_1 hm_2
      exfalso; omega
    | succ n_2 ih2 =>
      intro i hi2_0 hi2_1 hm_2
      refine x_iload_n (pc := 2) 1 K rfl rfl dX4_whichGoes_2 ?_
      refine x_aload_n (pc := 3) 0 K rfl rfl dX4_whichGoes_3 ?_
      refine x_get (pc := 4) (C := RX4) (T := TX4) (n := 5) (ci := 4) (idx := 19) (ref := "BorderBeds$Line") (x := .int (zI (n : Int)))  K hc0 rfl (by decide +kernel) 2 (by decide) (by decide +kernel) rfl rfl dX4_whichGoes_4 ?_
      refine x_icmp_ge (pc := 7) (tgt := 27) K (by omega) (by omega) dX4_whichGoes_7 (by decide) (fun h_7 => ?_) (fun h_7 => ?_)
      · skip
        refine x_iconst (pc := 27) K dX4_whichGoes_27 ?_
        refine x_iret (pc := 28) K KR (by omega) (Nat.le_of_ble_eq_true rfl) (Nat.le_of_ble_eq_true rfl) dX4_whichGoes_28 ?_
        have hi : i = l.length := by omega
        exact ⟨rfl, ri (by rw [hi2_1, hi, outG_end]; rfl), rfl⟩
      · skip
        have hi : i < l.length := by omega
        have e15 := (hq0.1 i hi).2
        have b15 := hq0.2 i (by omega)
        have o15 := outG_at hi
        rw [← e15] at o15
        refine x_aload_n (pc := 10) 0 K rfl rfl dX4_whichGoes_10 ?_
        refine x_get (pc := 11) (C := RX4) (T := TX4) (n := 5) (ci := 4) (idx := 15) (ref := "BorderBeds$Line") (x := .ref (B + (c + 2)))  K hc0 rfl (by decide +kernel) 1 (by decide) (by decide +kernel) rfl rfl dX4_whichGoes_11 ?_
        refine x_iload_n (pc := 14) 1 K rfl rfl dX4_whichGoes_14 ?_
        refine x_zald (pc := 15) i K hc1 rfl (by omega) (by decide) dX4_whichGoes_15 ?_
        refine x_if_eq (pc := 16) (tgt := 21) K (by omega) dX4_whichGoes_16 (by decide) (fun h_16 => ?_) (fun h_16 => ?_)
        · skip
          refine x_iinc (pc := 21) (L' := [(1, .int (zI ((i : Int) + 1))), (0, .ref (B + c))]) 1 K hnL rfl (by decide) rfl dX4_whichGoes_21 ?_
          refine x_goto (pc := 24) (tgt := 2) K dX4_whichGoes_24 (by decide) ?_
          refine x_sub (L' := [(0, .ref (B + c)), (1, .int (zI ((i : Int) + 1)))]) [1, 0] rfl ?_
          exact ih2 (i + 1) (by omega) (by rw [hi2_1, o15, if_neg (by omega)]) (by omega)
        · skip
          refine x_iload_n (pc := 19) 1 K rfl rfl dX4_whichGoes_19 ?_
          refine x_iret (pc := 20) K KR (by omega) (Nat.le_of_ble_eq_true rfl) (Nat.le_of_ble_eq_true rfl) dX4_whichGoes_20 ?_
          exact ⟨rfl, ri (by rw [hi2_1, o15, if_pos (by omega)]), rfl⟩
  refine x_sub (L' := [(0, .ref (B + c)), (1, .int (zI 0))]) [1, 0] rfl ?_
  exact LOOP2 (_) 0 (by omega) (by rfl) (Nat.lt_succ_self _)

set_option maxRecDepth 100000 in
set_option maxHeartbeats 4000000 in
theorem c_X4_mirrored {E : XE} {B N : Nat} {v : Nat → va_E} {cell : Nat} {cell_i : Int} (ha_cell : cell_i = (cell : Int)) (hq0 : cell ≤ 47) : gM yX4_mirrored wsX4_mirrored ({ frames := 0, cells := 0, slots := 0, locals := 0 }) E B N v [.int (zI cell_i)] (po0 N (fun ρ v' => ρ = some (.int (zI ((mirA cell : Nat) : Int))) ∧ v = v')) := by
  subst ha_cell
  refine x_met (nm := "mirrored") (by decide +kernel) rfl (Nat.le_of_ble_eq_true rfl) rfl (fun Γ K KR hnL hnm => ?_)
  show XW Γ N v [(0, .int (zI (cell : Int)))] 0 0 0 []
  refine x_iload_n (pc := 0) 0 K rfl rfl dX4_mirrored_0 ?_
  refine x_iload_n (pc := 1) 0 K rfl rfl dX4_mirrored_1 ?_
  refine x_bipush (pc := 2) K (by decide) dX4_mirrored_2 ?_
  refine x_irem (pc := 4) K (by omega) (by omega) dX4_mirrored_4 ?_
  refine x_isub (pc := 5) K dX4_mirrored_5 ?_
  refine x_bipush (pc := 6) K (by decide) dX4_mirrored_6 ?_
  refine x_iload_n (pc := 8) 0 K rfl rfl dX4_mirrored_8 ?_
  refine x_bipush (pc := 9) K (by decide) dX4_mirrored_9 ?_
  refine x_irem (pc := 11) K (by omega) (by omega) dX4_mirrored_11 ?_
  refine x_isub (pc := 12) K dX4_mirrored_12 ?_
  refine x_iadd (pc := 13) K dX4_mirrored_13 ?_
  refine x_iret (pc := 14) K KR (by omega) (Nat.le_of_ble_eq_true rfl) (Nat.le_of_ble_eq_true rfl) dX4_mirrored_14 ?_
  exact ⟨rfl, ri (by unfold mirA; omega), rfl⟩

set_option maxRecDepth 100000 in
set_option maxHeartbeats 4000000 in
theorem c_X4_remove {E : XE} {B N : Nat} {v : Nat → va_E} {c n gone : Nat} {g h : Nat → Int} {l : Cor} {gone_i : Int} (ha_gone : gone_i = (gone : Int)) (hc0 : Cel N v c (.inr (4, [.ref (B + (c + 1)), .ref (B + (c + 2)), .int (zI (n : Int)), .ref (B + (c + 3)), .ref (B + (c + 4))]))) (hc1 : Cel N v (c + 1) (iarr E 8 g)) (hc2 : Cel N v (c + 2) (barr E 8 h)) (hq0 : LR g h l) (hq1 : n = l.length ∧ n ≤ 8) (hq2 : gone < n) : gM yX4_remove wsX4_remove ({ frames := 0, cells := 0, slots := 0, locals := 0 }) E B N v [.ref (B + c), .int (zI gone_i)] (po0 N (fun ρ v' => ∃ (g2 : Nat → Int), ∃ (h2 : Nat → Int), (LR g2 h2 (l.eraseIdx gone)) ∧ ρ = none ∧ (va_up (va_up (va_up v c (.inr (4, [.ref (B + (c + 1)), .ref (B + (c + 2)), .int (zI ((n : Int) - 1)), .ref (B + (c + 3)), .ref (B + (c + 4))]))) (c + 1) (iarr E 8 g2)) (c + 2) (barr E 8 h2)) = v')) := by
  subst ha_gone
  refine x_met (nm := "remove") (by decide +kernel) rfl (Nat.le_of_ble_eq_true rfl) rfl (fun Γ K KR hnL hnm => ?_)
  show XW Γ N v [(0, .ref (B + c)), (1, .int (zI (gone : Int)))] 0 0 0 []
  refine x_v (cel_pad hc0) ?_
  refine x_v (cel_pad (cel_ne hc1 (by omega))) ?_
  refine x_v (cel_pad (cel_ne (cel_ne hc2 (by omega)) (by omega))) ?_
  refine x_iload_n (pc := 0) 1 K rfl rfl dX4_remove_0 ?_
  refine x_iconst (pc := 1) K dX4_remove_1 ?_
  refine x_iadd (pc := 2) K dX4_remove_2 ?_
  refine x_nm (fun z1 hz1 => ?_)
  refine x_istore_n (pc := 3) K (L' := [(2, .int (zI z1)), (0, .ref (B + c)), (1, .int (zI (gone : Int)))]) hnL rfl (by decide) rfl dX4_remove_3 ?_
  have LOOP4 : ∀ (n_4 : Nat) (i : Int) (x : Nat → Int) (y : Nat → Int), ((gone : Int) + 1 ≤ i ∧ i ≤ n) → (x = shB g gone (i - 1).toNat) → (y = shB h gone (i - 1).toNat) → ((n - i).toNat) < n_4 → XW Γ N (va_up (va_up (va_up v c (.inr (4, [.ref (B + (c + 1)), .ref (B + (c + 2)), .int (zI (n : Int)), .ref (B + (c + 3)), .ref (B + (c + 4))]))) (c + 1) (iarr E 8 x)) (c + 2) (barr E 8 y)) [(0, .ref (B + c)), (1, .int (zI (gone : Int))), (2, .int (zI i))] 0 0 4 [] := by
    intro n_4
    induction n_4 with
    | zero =>
      intro i x y hi4_0 hi4_1 hi4_2 hm_4
      exfalso; omega
    | succ n_4 ih4 =>
      intro i x y hi4_0 hi4_1 hi4_2 hm_4
      refine x_iload_n (pc := 4) 2 K rfl rfl dX4_remove_4 ?_
      refine x_aload_n (pc := 5) 0 K rfl rfl dX4_remove_5 ?_
      refine x_get (pc := 6) (C := RX4) (T := TX4) (n := 5) (ci := 4) (idx := 19) (ref := "BorderBeds$Line") (x := .int (zI (n : Int)))  K (cel_ne (cel_ne (cel_self hc0.1) (by omega)) (by omega)) rfl (by decide +kernel) 2 (by decide) (by decide +kernel) rfl rfl dX4_remove_6 ?_
      refine x_icmp_ge (pc := 9) (tgt := 46) K (by omega) (by omega) dX4_remove_9 (by decide) (fun h_9 => ?_) (fun h_9 => ?_)
      · skip
        refine x_aload_n (pc := 46) 0 K rfl rfl dX4_remove_46 ?_
        refine x_dup (pc := 47) K rfl dX4_remove_47 ?_
        refine x_get (pc := 48) (C := RX4) (T := TX4) (n := 5) (ci := 4) (idx := 19) (ref := "BorderBeds$Line") (x := .int (zI (n : Int)))  K (cel_ne (cel_ne (cel_self hc0.1) (by omega)) (by omega)) rfl (by decide +kernel) 2 (by decide) (by decide +kernel) rfl rfl dX4_remove_48 ?_
        refine x_iconst (pc := 51) K dX4_remove_51 ?_
        refine x_isub (pc := 52) K dX4_remove_52 ?_
        refine x_put (pc := 53) (C := RX4) (T := TX4) (n := 5) (ci := 4) (idx := 19) (ref := "BorderBeds$Line") (ty := .int)  K (cel_ne (cel_ne (cel_self hc0.1) (by omega)) (by omega)) rfl (by decide +kernel) tyX4 tyX4_ok nmX4 2 (by decide) (by decide +kernel) rfl rfl (by decide +kernel) rfl rfl (Nat.le_of_ble_eq_true rfl) dX4_remove_53 ?_
        refine x_v (w := (va_up (va_up (va_up v c (.inr (4, [.ref (B + (c + 1)), .ref (B + (c + 2)), .int (zI ((n : Int) - 1)), .ref (B + (c + 3)), .ref (B + (c + 4))]))) (c + 1) (iarr E 8 x)) (c + 2) (barr E 8 y))) (up_at2 (by omega) (by omega)).symm ?_
        refine x_vret (pc := 56) K KR (by omega) (Nat.le_of_ble_eq_true rfl) (Nat.le_of_ble_eq_true rfl) dX4_remove_56 ?_
        have hlast : (i - 1).toNat = l.length - 1 := by omega
        exact ⟨rfl, x, y, by rw [hi4_1, hi4_2, hlast]; exact LR_sh hq0 (by omega) (by omega), rfl, rfl⟩
      · skip
        obtain ⟨e, rfl⟩ : ∃ e : Nat, i = (e : Int) + 1 := ⟨(i - 1).toNat, by omega⟩
        rw [show ((e : Int) + 1 - 1).toNat = e by omega] at hi4_1 hi4_2
        have hy9 : 0 ≤ y (e + 1) ∧ y (e + 1) ≤ 1 := by rw [hi4_2]; unfold shB; split <;> exact hq0.2 _ (by omega)
        refine x_aload_n (pc := 12) 0 K rfl rfl dX4_remove_12 ?_
        refine x_get (pc := 13) (C := RX4) (T := TX4) (n := 5) (ci := 4) (idx := 11) (ref := "BorderBeds$Line") (x := .ref (B + (c + 1)))  K (cel_ne (cel_ne (cel_self hc0.1) (by omega)) (by omega)) rfl (by decide +kernel) 0 (by decide) (by decide +kernel) rfl rfl dX4_remove_13 ?_
        refine x_iload_n (pc := 16) 2 K rfl rfl dX4_remove_16 ?_
        refine x_iconst (pc := 17) K dX4_remove_17 ?_
        refine x_isub (pc := 18) K dX4_remove_18 ?_
        refine x_st (st' := [.int (zI (e : Int)), .ref (B + (c + 1))]) (by rw [show (e : Int) + 1 - 1 = (e : Int) by omega]) ?_
        refine x_aload_n (pc := 19) 0 K rfl rfl dX4_remove_19 ?_
        refine x_get (pc := 20) (C := RX4) (T := TX4) (n := 5) (ci := 4) (idx := 11) (ref := "BorderBeds$Line") (x := .ref (B + (c + 1)))  K (cel_ne (cel_ne (cel_self hc0.1) (by omega)) (by omega)) rfl (by decide +kernel) 0 (by decide) (by decide +kernel) rfl rfl dX4_remove_20 ?_
        refine x_iload_n (pc := 23) 2 K rfl rfl dX4_remove_23 ?_
        refine x_iald (pc := 24) (e + 1) K (cel_ne (cel_self hc1.1) (by omega)) (by omega) (by omega) (by decide) dX4_remove_24 ?_
        refine x_iast (pc := 25) e K (cel_ne (cel_self hc1.1) (by omega)) rfl (by omega) (by decide) dX4_remove_25 ?_
        refine x_v (w := (va_up (va_up (va_up v c (.inr (4, [.ref (B + (c + 1)), .ref (B + (c + 2)), .int (zI (n : Int)), .ref (B + (c + 3)), .ref (B + (c + 4))]))) (c + 1) (iarr E 8 (va_up x e (x (e + 1))))) (c + 2) (barr E 8 y))) (up_at1 (by omega)).symm ?_
        refine x_aload_n (pc := 26) 0 K rfl rfl dX4_remove_26 ?_
        refine x_get (pc := 27) (C := RX4) (T := TX4) (n := 5) (ci := 4) (idx := 15) (ref := "BorderBeds$Line") (x := .ref (B + (c + 2)))  K (cel_ne (cel_ne (cel_self hc0.1) (by omega)) (by omega)) rfl (by decide +kernel) 1 (by decide) (by decide +kernel) rfl rfl dX4_remove_27 ?_
        refine x_iload_n (pc := 30) 2 K rfl rfl dX4_remove_30 ?_
        refine x_iconst (pc := 31) K dX4_remove_31 ?_
        refine x_isub (pc := 32) K dX4_remove_32 ?_
        refine x_st (st' := [.int (zI (e : Int)), .ref (B + (c + 2))]) (by rw [show (e : Int) + 1 - 1 = (e : Int) by omega]) ?_
        refine x_aload_n (pc := 33) 0 K rfl rfl dX4_remove_33 ?_
        refine x_get (pc := 34) (C := RX4) (T := TX4) (n := 5) (ci := 4) (idx := 15) (ref := "BorderBeds$Line") (x := .ref (B + (c + 2)))  K (cel_ne (cel_ne (cel_self hc0.1) (by omega)) (by omega)) rfl (by decide +kernel) 1 (by decide) (by decide +kernel) rfl rfl dX4_remove_34 ?_
        refine x_iload_n (pc := 37) 2 K rfl rfl dX4_remove_37 ?_
        refine x_zald (pc := 38) (e + 1) K (cel_self hc2.1) (by omega) (by omega) (by decide) dX4_remove_38 ?_
        refine x_zast (pc := 39) e K (cel_self hc2.1) rfl (by omega) (by decide) (nb_ok (by omega)) dX4_remove_39 ?_
        refine x_v (w := (va_up (va_up (va_up v c (.inr (4, [.ref (B + (c + 1)), .ref (B + (c + 2)), .int (zI (n : Int)), .ref (B + (c + 3)), .ref (B + (c + 4))]))) (c + 1) (iarr E 8 (va_up x e (x (e + 1))))) (c + 2) (barr E 8 (va_up y e (y (e + 1)))))) (up_at0).symm ?_
        refine x_iinc (pc := 40) (L' := [(2, .int (zI (((e : Int) + 1) + 1))), (0, .ref (B + c)), (1, .int (zI (gone : Int)))]) 2 K hnL rfl (by decide) rfl dX4_remove_40 ?_
        refine x_goto (pc := 43) (tgt := 4) K dX4_remove_43 (by decide) ?_
        refine x_sub (L' := [(0, .ref (B + c)), (1, .int (zI (gone : Int))), (2, .int (zI (((e : Int) + 1) + 1)))]) [1, 2, 0] rfl ?_
        exact ih4 (((e : Int) + 1) + 1) (va_up x e (x (e + 1))) (va_up y e (y (e + 1))) (by omega) (by rw [hi4_1, show ((e : Int) + 1 + 1 - 1).toNat = e + 1 by omega]; exact shB_s (by omega)) (by rw [hi4_2, show ((e : Int) + 1 + 1 - 1).toNat = e + 1 by omega]; exact shB_s (by omega)) (by omega)
  refine x_sub (L' := [(0, .ref (B + c)), (1, .int (zI (gone : Int))), (2, .int (zI z1))]) [1, 2, 0] rfl ?_
  exact LOOP4 (_) z1 g h (by omega) (by rw [show (z1 - 1).toNat = gone by omega, shB_0]) (by rw [show (z1 - 1).toNat = gone by omega, shB_0]) (Nat.lt_succ_self _)

set_option maxRecDepth 100000 in
set_option maxHeartbeats 4000000 in
theorem c_X4_add {E : XE} {B N : Nat} {v : Nat → va_E} {c n : Nat} {cell made : Int} {g h : Nat → Int} {l : Cor} (hc0 : Cel N v c (.inr (4, [.ref (B + (c + 1)), .ref (B + (c + 2)), .int (zI (n : Int)), .ref (B + (c + 3)), .ref (B + (c + 4))]))) (hc1 : Cel N v (c + 1) (iarr E 8 g)) (hc2 : Cel N v (c + 2) (barr E 8 h)) (hq0 : LR g h l) (hq1 : n = l.length ∧ n ≤ 7) (hq2 : CorOk l) (hq3 : 0 ≤ cell ∧ cell ≤ 47) (hq4 : 0 ≤ made ∧ made ≤ 1) : gM yX4_add wsX4_add ({ frames := 1, cells := 0, slots := 0, locals := 22 }) E B N v [.ref (B + c), .int (zI cell), .int (zI made)] (po0 N (fun ρ v' => ∃ (g2 : Nat → Int), ∃ (h2 : Nat → Int), (LR g2 h2 (comesA cell made l)) ∧ ρ = none ∧ (va_up (va_up (va_up v c (.inr (4, [.ref (B + (c + 1)), .ref (B + (c + 2)), .int (zI ((comesA cell made l).length : Int)), .ref (B + (c + 3)), .ref (B + (c + 4))]))) (c + 1) (iarr E 8 g2)) (c + 2) (barr E 8 h2)) = v')) := by
  refine x_met (nm := "add") (by decide +kernel) rfl (Nat.le_of_ble_eq_true rfl) rfl (fun Γ K KR hnL hnm => ?_)
  show XW Γ N v [(0, .ref (B + c)), (1, .int (zI cell)), (2, .int (zI made))] 0 0 0 []
  refine x_v (cel_pad hc0) ?_
  refine x_v (cel_pad (cel_ne hc1 (by omega))) ?_
  refine x_v (cel_pad (cel_ne (cel_ne hc2 (by omega)) (by omega))) ?_
  refine x_aload_n (pc := 0) 0 K rfl rfl dX4_add_0 ?_
  refine x_iload_n (pc := 1) 1 K rfl rfl dX4_add_1 ?_
  refine x_bipush (pc := 2) K (by decide) dX4_add_2 ?_
  refine x_irem (pc := 4) K (by omega) (by omega) dX4_add_4 ?_
  refine x_callV (pc := 5) (C := RX4) (T := TX4) (n := 5) (ci := 4) (As := [.int (zI (cell % 8))]) K (c_X4_cornerIn (E := E) (B := B) (N := N)   (cel_ne (cel_ne (cel_self hc0.1) (by omega)) (by omega)) (cel_ne (cel_self hc1.1) (by omega)) hq0 (by omega) hq2 (by omega)) gX4_add_X4_cornerIn rfl (na := 1) (by decide +kernel) rfl ⟨(Nat.le_of_ble_eq_true rfl), (Nat.le_of_ble_eq_true rfl)⟩ (cel_ne (cel_ne (cel_self hc0.1) (by omega)) (by omega)) rfl (st := []) rfl (Nat.le_of_ble_eq_true rfl) ⟨(Nat.le_of_ble_eq_true rfl), (Nat.le_of_ble_eq_true rfl)⟩ dX4_add_5 (fun r5 N5 w5 hpo5 hN5 => ?_)
  obtain ⟨rfl, rfl, rfl⟩ := hpo5
  refine x_st (st' := [.int (zI (cinA (cell % 8) l))]) rfl ?_
  have hrg5 := cinA_rng (cell % 8) l
  refine x_nm (fun z1 hz1 => ?_)
  refine x_istore_n (pc := 8) K (L' := [(3, .int (zI z1)), (0, .ref (B + c)), (1, .int (zI cell)), (2, .int (zI made))]) hnL rfl (by decide) rfl dX4_add_8 ?_
  refine x_iload_n (pc := 9) 0 K rfl rfl dX4_add_9 ?_
  refine x_if_lt (pc := 10) (tgt := 18) K (by omega) dX4_add_10 (by decide) (fun h_10 => ?_) (fun h_10 => ?_)
  · skip
    have hrm : rmvA (cell % 8) l = l := by
      rcases cinA_spec (cell % 8) l with ⟨-, h⟩ | ⟨k, hk, h, -⟩
      · exact rmvA_none h
      · exfalso; omega
    have hlr : LR g h (rmvA (cell % 8) l) := by rw [hrm]; exact hq0
    have hll : (rmvA (cell % 8) l).length = n := by rw [hrm]; omega
    have hcl : ((comesA cell made l).length : Int) = (n : Int) + 1 := by unfold comesA; simp only [List.length_append, List.length_cons, List.length_nil]; omega
    have hadd := LR_add (c := cell) (m := made) hlr hq4
    rw [hll] at hadd
    refine x_aload_n (pc := 18) 1 K rfl rfl dX4_add_18 ?_
    refine x_get (pc := 19) (C := RX4) (T := TX4) (n := 5) (ci := 4) (idx := 19) (ref := "BorderBeds$Line") (x := .int (zI (n : Int)))  K (cel_ne (cel_ne (cel_self hc0.1) (by omega)) (by omega)) rfl (by decide +kernel) 2 (by decide) (by decide +kernel) rfl rfl dX4_add_19 ?_
    refine x_bipush (pc := 22) K (by decide) dX4_add_22 ?_
    refine x_icmp_ge (pc := 24) (tgt := 57) K (by omega) (by decide) dX4_add_24 (by decide) (fun h_24 => ?_) (fun h_24 => ?_)
    · skip
      exfalso; omega
    · skip
      refine x_aload_n (pc := 27) 1 K rfl rfl dX4_add_27 ?_
      refine x_get (pc := 28) (C := RX4) (T := TX4) (n := 5) (ci := 4) (idx := 11) (ref := "BorderBeds$Line") (x := .ref (B + (c + 1)))  K (cel_ne (cel_ne (cel_self hc0.1) (by omega)) (by omega)) rfl (by decide +kernel) 0 (by decide) (by decide +kernel) rfl rfl dX4_add_28 ?_
      refine x_aload_n (pc := 31) 1 K rfl rfl dX4_add_31 ?_
      refine x_get (pc := 32) (C := RX4) (T := TX4) (n := 5) (ci := 4) (idx := 19) (ref := "BorderBeds$Line") (x := .int (zI (n : Int)))  K (cel_ne (cel_ne (cel_self hc0.1) (by omega)) (by omega)) rfl (by decide +kernel) 2 (by decide) (by decide +kernel) rfl rfl dX4_add_32 ?_
      refine x_iload_n (pc := 35) 2 K rfl rfl dX4_add_35 ?_
      refine x_iast (pc := 36) n K (cel_ne (cel_self hc1.1) (by omega)) rfl (by omega) (by decide) dX4_add_36 ?_
      refine x_v (w := (va_up (va_up (va_up v c (.inr (4, [.ref (B + (c + 1)), .ref (B + (c + 2)), .int (zI (n : Int)), .ref (B + (c + 3)), .ref (B + (c + 4))]))) (c + 1) (iarr E 8 (va_up g n cell))) (c + 2) (barr E 8 h))) (up_at1 (by omega)).symm ?_
      refine x_aload_n (pc := 37) 1 K rfl rfl dX4_add_37 ?_
      refine x_get (pc := 38) (C := RX4) (T := TX4) (n := 5) (ci := 4) (idx := 15) (ref := "BorderBeds$Line") (x := .ref (B + (c + 2)))  K (cel_ne (cel_ne (cel_self hc0.1) (by omega)) (by omega)) rfl (by decide +kernel) 1 (by decide) (by decide +kernel) rfl rfl dX4_add_38 ?_
      refine x_aload_n (pc := 41) 1 K rfl rfl dX4_add_41 ?_
      refine x_get (pc := 42) (C := RX4) (T := TX4) (n := 5) (ci := 4) (idx := 19) (ref := "BorderBeds$Line") (x := .int (zI (n : Int)))  K (cel_ne (cel_ne (cel_self hc0.1) (by omega)) (by omega)) rfl (by decide +kernel) 2 (by decide) (by decide +kernel) rfl rfl dX4_add_42 ?_
      refine x_iload_n (pc := 45) 3 K rfl rfl dX4_add_45 ?_
      refine x_zast (pc := 46) n K (cel_self hc2.1) rfl (by omega) (by decide) (nb_ok (by omega)) dX4_add_46 ?_
      refine x_v (w := (va_up (va_up (va_up v c (.inr (4, [.ref (B + (c + 1)), .ref (B + (c + 2)), .int (zI (n : Int)), .ref (B + (c + 3)), .ref (B + (c + 4))]))) (c + 1) (iarr E 8 (va_up g n cell))) (c + 2) (barr E 8 (va_up h n made)))) (up_at0).symm ?_
      refine x_aload_n (pc := 47) 1 K rfl rfl dX4_add_47 ?_
      refine x_dup (pc := 48) K rfl dX4_add_48 ?_
      refine x_get (pc := 49) (C := RX4) (T := TX4) (n := 5) (ci := 4) (idx := 19) (ref := "BorderBeds$Line") (x := .int (zI (n : Int)))  K (cel_ne (cel_ne (cel_self hc0.1) (by omega)) (by omega)) rfl (by decide +kernel) 2 (by decide) (by decide +kernel) rfl rfl dX4_add_49 ?_
      refine x_iconst (pc := 52) K dX4_add_52 ?_
      refine x_iadd (pc := 53) K dX4_add_53 ?_
      refine x_put (pc := 54) (C := RX4) (T := TX4) (n := 5) (ci := 4) (idx := 19) (ref := "BorderBeds$Line") (ty := .int)  K (cel_ne (cel_ne (cel_self hc0.1) (by omega)) (by omega)) rfl (by decide +kernel) tyX4 tyX4_ok nmX4 2 (by decide) (by decide +kernel) rfl rfl (by decide +kernel) rfl rfl (Nat.le_of_ble_eq_true rfl) dX4_add_54 ?_
      refine x_v (w := (va_up (va_up (va_up v c (.inr (4, [.ref (B + (c + 1)), .ref (B + (c + 2)), .int (zI ((n : Int) + 1)), .ref (B + (c + 3)), .ref (B + (c + 4))]))) (c + 1) (iarr E 8 (va_up g n cell))) (c + 2) (barr E 8 (va_up h n made)))) (up_at2 (by omega) (by omega)).symm ?_
      refine x_vret (pc := 57) K KR (by omega) (Nat.le_of_ble_eq_true rfl) (Nat.le_of_ble_eq_true rfl) dX4_add_57 ?_
      exact ⟨rfl, _, _, hadd, rfl, by rw [hcl]⟩
  · skip
    obtain ⟨k, hk, hck, hk8⟩ : ∃ (k : Nat) (hk : k < l.length), cinA (cell % 8) l = (k : Int) ∧ (l[k]).1 % 8 = cell % 8 := by
      rcases cinA_spec (cell % 8) l with ⟨h, -⟩ | h
      · exfalso; omega
      · exact h
    have hrm := rmvA_at hk hq2.2 hk8
    refine x_L (L' := [(3, .int (zI (k : Int))), (0, .ref (B + c)), (1, .int (zI cell)), (2, .int (zI made))]) (by rw [show z1 = (k : Int) by omega]) ?_
    have hll : (rmvA (cell % 8) l).length = n - 1 := by rw [hrm, List.length_eraseIdx_of_lt hk]; omega
    have hcl : ((comesA cell made l).length : Int) = ((n - 1 : Nat) : Int) + 1 := by unfold comesA; simp only [List.length_append, List.length_cons, List.length_nil]; omega
    refine x_aload_n (pc := 13) 1 K rfl rfl dX4_add_13 ?_
    refine x_iload_n (pc := 14) 0 K rfl rfl dX4_add_14 ?_
    refine x_callV (pc := 15) (C := RX4) (T := TX4) (n := 5) (ci := 4) (As := [.int (zI (k : Int))]) K (c_X4_remove (E := E) (B := B) (N := N) (gone := k) rfl (cel_ne (cel_ne (cel_self hc0.1) (by omega)) (by omega)) (cel_ne (cel_self hc1.1) (by omega)) (cel_self hc2.1) hq0 (by omega) (by omega)) gX4_add_X4_remove rfl (na := 1) (by decide +kernel) rfl ⟨(Nat.le_of_ble_eq_true rfl), (Nat.le_of_ble_eq_true rfl)⟩ (cel_ne (cel_ne (cel_self hc0.1) (by omega)) (by omega)) rfl (st := []) rfl (Nat.le_of_ble_eq_true rfl) ⟨(Nat.le_of_ble_eq_true rfl), (Nat.le_of_ble_eq_true rfl)⟩ dX4_add_15 (fun r15 N15 w15 hpo15 hN15 => ?_)
    obtain ⟨rfl, g2_15, h2_15, hp15_0, rfl, rfl⟩ := hpo15
    refine x_v (congrArg (fun w => (va_up (va_up w (c + 1) (iarr E 8 g2_15)) (c + 2) (barr E 8 h2_15))) (show (va_up (va_up (va_up v c (.inr (4, [.ref (B + (c + 1)), .ref (B + (c + 2)), .int (zI ((n : Int) - 1)), .ref (B + (c + 3)), .ref (B + (c + 4))]))) (c + 1) (iarr E 8 g)) (c + 2) (barr E 8 h)) = _ from (up_at2 (by omega) (by omega)).symm)) ?_
    refine x_v (congrArg (fun w => (va_up w (c + 2) (barr E 8 h2_15))) (show (va_up (va_up (va_up v c (.inr (4, [.ref (B + (c + 1)), .ref (B + (c + 2)), .int (zI ((n : Int) - 1)), .ref (B + (c + 3)), .ref (B + (c + 4))]))) (c + 1) (iarr E 8 g2_15)) (c + 2) (barr E 8 h)) = _ from (up_at1 (by omega)).symm)) ?_
    refine x_v (w := (va_up (va_up (va_up v c (.inr (4, [.ref (B + (c + 1)), .ref (B + (c + 2)), .int (zI ((n : Int) - 1)), .ref (B + (c + 3)), .ref (B + (c + 4))]))) (c + 1) (iarr E 8 g2_15)) (c + 2) (barr E 8 h2_15))) (up_at0).symm ?_
    refine x_st (st' := []) rfl ?_
    rw [← hrm] at hp15_0
    have hadd := LR_add (c := cell) (m := made) hp15_0 hq4
    rw [hll] at hadd
    refine x_aload_n (pc := 18) 1 K rfl rfl dX4_add_18 ?_
    refine x_get (pc := 19) (C := RX4) (T := TX4) (n := 5) (ci := 4) (idx := 19) (ref := "BorderBeds$Line") (x := .int (zI ((n : Int) - 1)))  K (cel_ne (cel_ne (cel_self hc0.1) (by omega)) (by omega)) rfl (by decide +kernel) 2 (by decide) (by decide +kernel) rfl rfl dX4_add_19 ?_
    refine x_bipush (pc := 22) K (by decide) dX4_add_22 ?_
    refine x_icmp_ge (pc := 24) (tgt := 57) K (by omega) (by decide) dX4_add_24 (by decide) (fun h_24 => ?_) (fun h_24 => ?_)
    · skip
      exfalso; omega
    · skip
      refine x_aload_n (pc := 27) 1 K rfl rfl dX4_add_27 ?_
      refine x_get (pc := 28) (C := RX4) (T := TX4) (n := 5) (ci := 4) (idx := 11) (ref := "BorderBeds$Line") (x := .ref (B + (c + 1)))  K (cel_ne (cel_ne (cel_self hc0.1) (by omega)) (by omega)) rfl (by decide +kernel) 0 (by decide) (by decide +kernel) rfl rfl dX4_add_28 ?_
      refine x_aload_n (pc := 31) 1 K rfl rfl dX4_add_31 ?_
      refine x_get (pc := 32) (C := RX4) (T := TX4) (n := 5) (ci := 4) (idx := 19) (ref := "BorderBeds$Line") (x := .int (zI ((n : Int) - 1)))  K (cel_ne (cel_ne (cel_self hc0.1) (by omega)) (by omega)) rfl (by decide +kernel) 2 (by decide) (by decide +kernel) rfl rfl dX4_add_32 ?_
      refine x_st (st' := [.int (zI (((n - 1) : Nat) : Int)), .ref (B + (c + 1))]) (by rw [show (n : Int) - 1 = ((n - 1 : Nat) : Int) by omega]) ?_
      refine x_iload_n (pc := 35) 2 K rfl rfl dX4_add_35 ?_
      refine x_iast (pc := 36) (n - 1) K (cel_ne (cel_self hc1.1) (by omega)) (by omega) (by omega) (by decide) dX4_add_36 ?_
      refine x_v (w := (va_up (va_up (va_up v c (.inr (4, [.ref (B + (c + 1)), .ref (B + (c + 2)), .int (zI ((n : Int) - 1)), .ref (B + (c + 3)), .ref (B + (c + 4))]))) (c + 1) (iarr E 8 (va_up g2_15 (n - 1) cell))) (c + 2) (barr E 8 h2_15))) (up_at1 (by omega)).symm ?_
      refine x_aload_n (pc := 37) 1 K rfl rfl dX4_add_37 ?_
      refine x_get (pc := 38) (C := RX4) (T := TX4) (n := 5) (ci := 4) (idx := 15) (ref := "BorderBeds$Line") (x := .ref (B + (c + 2)))  K (cel_ne (cel_ne (cel_self hc0.1) (by omega)) (by omega)) rfl (by decide +kernel) 1 (by decide) (by decide +kernel) rfl rfl dX4_add_38 ?_
      refine x_aload_n (pc := 41) 1 K rfl rfl dX4_add_41 ?_
      refine x_get (pc := 42) (C := RX4) (T := TX4) (n := 5) (ci := 4) (idx := 19) (ref := "BorderBeds$Line") (x := .int (zI ((n : Int) - 1)))  K (cel_ne (cel_ne (cel_self hc0.1) (by omega)) (by omega)) rfl (by decide +kernel) 2 (by decide) (by decide +kernel) rfl rfl dX4_add_42 ?_
      refine x_st (st' := [.int (zI (((n - 1) : Nat) : Int)), .ref (B + (c + 2))]) (by rw [show (n : Int) - 1 = ((n - 1 : Nat) : Int) by omega]) ?_
      refine x_iload_n (pc := 45) 3 K rfl rfl dX4_add_45 ?_
      refine x_zast (pc := 46) (n - 1) K (cel_self hc2.1) (by omega) (by omega) (by decide) (nb_ok (by omega)) dX4_add_46 ?_
      refine x_v (w := (va_up (va_up (va_up v c (.inr (4, [.ref (B + (c + 1)), .ref (B + (c + 2)), .int (zI ((n : Int) - 1)), .ref (B + (c + 3)), .ref (B + (c + 4))]))) (c + 1) (iarr E 8 (va_up g2_15 (n - 1) cell))) (c + 2) (barr E 8 (va_up h2_15 (n - 1) made)))) (up_at0).symm ?_
      refine x_aload_n (pc := 47) 1 K rfl rfl dX4_add_47 ?_
      refine x_dup (pc := 48) K rfl dX4_add_48 ?_
      refine x_get (pc := 49) (C := RX4) (T := TX4) (n := 5) (ci := 4) (idx := 19) (ref := "BorderBeds$Line") (x := .int (zI ((n : Int) - 1)))  K (cel_ne (cel_ne (cel_self hc0.1) (by omega)) (by omega)) rfl (by decide +kernel) 2 (by decide) (by decide +kernel) rfl rfl dX4_add_49 ?_
      refine x_st (st' := [.int (zI (((n - 1) : Nat) : Int)), .ref (B + c)]) (by rw [show (n : Int) - 1 = ((n - 1 : Nat) : Int) by omega]) ?_
      refine x_iconst (pc := 52) K dX4_add_52 ?_
      refine x_iadd (pc := 53) K dX4_add_53 ?_
      refine x_put (pc := 54) (C := RX4) (T := TX4) (n := 5) (ci := 4) (idx := 19) (ref := "BorderBeds$Line") (ty := .int)  K (cel_ne (cel_ne (cel_self hc0.1) (by omega)) (by omega)) rfl (by decide +kernel) tyX4 tyX4_ok nmX4 2 (by decide) (by decide +kernel) rfl rfl (by decide +kernel) rfl rfl (Nat.le_of_ble_eq_true rfl) dX4_add_54 ?_
      refine x_v (w := (va_up (va_up (va_up v c (.inr (4, [.ref (B + (c + 1)), .ref (B + (c + 2)), .int (zI ((((n - 1) : Nat) : Int) + 1)), .ref (B + (c + 3)), .ref (B + (c + 4))]))) (c + 1) (iarr E 8 (va_up g2_15 (n - 1) cell))) (c + 2) (barr E 8 (va_up h2_15 (n - 1) made)))) (up_at2 (by omega) (by omega)).symm ?_
      refine x_vret (pc := 57) K KR (by omega) (Nat.le_of_ble_eq_true rfl) (Nat.le_of_ble_eq_true rfl) dX4_add_57 ?_
      exact ⟨rfl, _, _, hadd, rfl, by rw [hcl]⟩

set_option maxRecDepth 100000 in
set_option maxHeartbeats 4000000 in
theorem c_X4_become {E : XE} {B N : Nat} {v : Nat → va_E} {c d n m : Nat} {g h s t g2 h2 s2 t2 : Nat → Int} (hc0 : Cel N v c (.inr (4, [.ref (B + (c + 1)), .ref (B + (c + 2)), .int (zI (n : Int)), .ref (B + (c + 3)), .ref (B + (c + 4))]))) (hc1 : Cel N v (c + 1) (iarr E 8 g)) (hc2 : Cel N v (c + 2) (barr E 8 h)) (hc3 : Cel N v (c + 3) (iarr E 8 s)) (hc4 : Cel N v (c + 4) (iarr E 8 t)) (hc5 : Cel N v d (.inr (4, [.ref (B + (d + 1)), .ref (B + (d + 2)), .int (zI (m : Int)), .ref (B + (d + 3)), .ref (B + (d + 4))]))) (hc6 : Cel N v (d + 1) (iarr E 8 g2)) (hc7 : Cel N v (d + 2) (barr E 8 h2)) (hc8 : Cel N v (d + 3) (iarr E 8 s2)) (hc9 : Cel N v (d + 4) (iarr E 8 t2)) (hq0 : c + 5 ≤ d ∨ d + 5 ≤ c) (hq1 : ∀ k, k < 8 → 0 ≤ h2 k ∧ h2 k ≤ 1) : gM yX4_become wsX4_become ({ frames := 1, cells := 0, slots := 0, locals := 40 }) E B N v [.ref (B + c), .ref (B + d)] (po0 N (fun ρ v' => ρ = none ∧ (va_up (va_up (va_up (va_up (va_up v c (.inr (4, [.ref (B + (c + 1)), .ref (B + (c + 2)), .int (zI (m : Int)), .ref (B + (c + 3)), .ref (B + (c + 4))]))) (c + 1) (iarr E 8 g2)) (c + 2) (barr E 8 h2)) (c + 3) (iarr E 8 s2)) (c + 4) (iarr E 8 t2)) = v')) := by
  refine x_met (nm := "become") (by decide +kernel) rfl (Nat.le_of_ble_eq_true rfl) rfl (fun Γ K KR hnL hnm => ?_)
  show XW Γ N v [(0, .ref (B + c)), (1, .ref (B + d))] 0 0 0 []
  refine x_v (cel_pad hc0) ?_
  refine x_v (cel_pad (cel_ne hc1 (by omega))) ?_
  refine x_v (cel_pad (cel_ne (cel_ne hc2 (by omega)) (by omega))) ?_
  refine x_v (cel_pad (cel_ne (cel_ne (cel_ne hc3 (by omega)) (by omega)) (by omega))) ?_
  refine x_v (cel_pad (cel_ne (cel_ne (cel_ne (cel_ne hc4 (by omega)) (by omega)) (by omega)) (by omega))) ?_
  refine x_aload_n (pc := 0) 0 K rfl rfl dX4_become_0 ?_
  refine x_aload_n (pc := 1) 1 K rfl rfl dX4_become_1 ?_
  refine x_get (pc := 2) (C := RX4) (T := TX4) (n := 5) (ci := 4) (idx := 19) (ref := "BorderBeds$Line") (x := .int (zI (m : Int)))  K (cel_ne (cel_ne (cel_ne (cel_ne (cel_ne hc5 (by omega)) (by omega)) (by omega)) (by omega)) (by omega)) rfl (by decide +kernel) 2 (by decide) (by decide +kernel) rfl rfl dX4_become_2 ?_
  refine x_put (pc := 5) (C := RX4) (T := TX4) (n := 5) (ci := 4) (idx := 19) (ref := "BorderBeds$Line") (ty := .int)  K (cel_ne (cel_ne (cel_ne (cel_ne (cel_self hc0.1) (by omega)) (by omega)) (by omega)) (by omega)) rfl (by decide +kernel) tyX4 tyX4_ok nmX4 2 (by decide) (by decide +kernel) rfl rfl (by decide +kernel) rfl rfl (Nat.le_of_ble_eq_true rfl) dX4_become_5 ?_
  refine x_v (w := (va_up (va_up (va_up (va_up (va_up v c (.inr (4, [.ref (B + (c + 1)), .ref (B + (c + 2)), .int (zI (m : Int)), .ref (B + (c + 3)), .ref (B + (c + 4))]))) (c + 1) (iarr E 8 g)) (c + 2) (barr E 8 h)) (c + 3) (iarr E 8 s)) (c + 4) (iarr E 8 t))) (up_at4 (by omega) (by omega) (by omega) (by omega)).symm ?_
  refine x_aload_n (pc := 8) 1 K rfl rfl dX4_become_8 ?_
  refine x_get (pc := 9) (C := RX4) (T := TX4) (n := 5) (ci := 4) (idx := 11) (ref := "BorderBeds$Line") (x := .ref (B + (d + 1)))  K (cel_ne (cel_ne (cel_ne (cel_ne (cel_ne hc5 (by omega)) (by omega)) (by omega)) (by omega)) (by omega)) rfl (by decide +kernel) 0 (by decide) (by decide +kernel) rfl rfl dX4_become_9 ?_
  refine x_iconst (pc := 12) K dX4_become_12 ?_
  refine x_aload_n (pc := 13) 0 K rfl rfl dX4_become_13 ?_
  refine x_get (pc := 14) (C := RX4) (T := TX4) (n := 5) (ci := 4) (idx := 11) (ref := "BorderBeds$Line") (x := .ref (B + (c + 1)))  K (cel_ne (cel_ne (cel_ne (cel_ne (cel_self hc0.1) (by omega)) (by omega)) (by omega)) (by omega)) rfl (by decide +kernel) 0 (by decide) (by decide +kernel) rfl rfl dX4_become_14 ?_
  refine x_iconst (pc := 17) K dX4_become_17 ?_
  refine x_bipush (pc := 18) K (by decide) dX4_become_18 ?_
  refine x_copyI (pc := 20) (idx := 41) 0 0 8 K (by decide +kernel) (by decide +kernel) (by decide +kernel) (by decide +kernel) (cel_ne (cel_ne (cel_ne (cel_ne (cel_ne hc6 (by omega)) (by omega)) (by omega)) (by omega)) (by omega)) (cel_ne (cel_ne (cel_ne (cel_self hc1.1) (by omega)) (by omega)) (by omega)) (by first | rfl | omega) (by first | rfl | omega) (by first | rfl | omega) (by omega) (by omega) (by omega) (Nat.le_of_ble_eq_true rfl) (Nat.le_of_ble_eq_true rfl) dX4_become_20 ?_
  refine x_v (w := (va_up (va_up (va_up (va_up (va_up v c (.inr (4, [.ref (B + (c + 1)), .ref (B + (c + 2)), .int (zI (m : Int)), .ref (B + (c + 3)), .ref (B + (c + 4))]))) (c + 1) (iarr E 8 (cpI g2 g 0 0 8))) (c + 2) (barr E 8 h)) (c + 3) (iarr E 8 s)) (c + 4) (iarr E 8 t))) (up_at3 (by omega) (by omega) (by omega)).symm ?_
  refine x_iext (c := (c + 1)) (g' := g2) K (cel_ne (cel_ne (cel_ne (cel_self hc1.1) (by omega)) (by omega)) (by omega)) (cpI_all) ?_
  refine x_v (w := (va_up (va_up (va_up (va_up (va_up v c (.inr (4, [.ref (B + (c + 1)), .ref (B + (c + 2)), .int (zI (m : Int)), .ref (B + (c + 3)), .ref (B + (c + 4))]))) (c + 1) (iarr E 8 g2)) (c + 2) (barr E 8 h)) (c + 3) (iarr E 8 s)) (c + 4) (iarr E 8 t))) (up_at3 (by omega) (by omega) (by omega)).symm ?_
  refine x_aload_n (pc := 23) 1 K rfl rfl dX4_become_23 ?_
  refine x_get (pc := 24) (C := RX4) (T := TX4) (n := 5) (ci := 4) (idx := 15) (ref := "BorderBeds$Line") (x := .ref (B + (d + 2)))  K (cel_ne (cel_ne (cel_ne (cel_ne (cel_ne hc5 (by omega)) (by omega)) (by omega)) (by omega)) (by omega)) rfl (by decide +kernel) 1 (by decide) (by decide +kernel) rfl rfl dX4_become_24 ?_
  refine x_iconst (pc := 27) K dX4_become_27 ?_
  refine x_aload_n (pc := 28) 0 K rfl rfl dX4_become_28 ?_
  refine x_get (pc := 29) (C := RX4) (T := TX4) (n := 5) (ci := 4) (idx := 15) (ref := "BorderBeds$Line") (x := .ref (B + (c + 2)))  K (cel_ne (cel_ne (cel_ne (cel_ne (cel_self hc0.1) (by omega)) (by omega)) (by omega)) (by omega)) rfl (by decide +kernel) 1 (by decide) (by decide +kernel) rfl rfl dX4_become_29 ?_
  refine x_iconst (pc := 32) K dX4_become_32 ?_
  refine x_bipush (pc := 33) K (by decide) dX4_become_33 ?_
  refine x_copyZ (pc := 35) (idx := 41) 0 0 8 K (by decide +kernel) (by decide +kernel) (by decide +kernel) (by decide +kernel) (cel_ne (cel_ne (cel_ne (cel_ne (cel_ne hc7 (by omega)) (by omega)) (by omega)) (by omega)) (by omega)) (cel_ne (cel_ne (cel_self hc2.1) (by omega)) (by omega)) (by first | rfl | omega) (by first | rfl | omega) (by first | rfl | omega) (by omega) (by omega) (by omega) (fun q hq => by rw [Nat.zero_add]; exact hq1 q hq) (Nat.le_of_ble_eq_true rfl) (Nat.le_of_ble_eq_true rfl) dX4_become_35 ?_
  refine x_v (w := (va_up (va_up (va_up (va_up (va_up v c (.inr (4, [.ref (B + (c + 1)), .ref (B + (c + 2)), .int (zI (m : Int)), .ref (B + (c + 3)), .ref (B + (c + 4))]))) (c + 1) (iarr E 8 g2)) (c + 2) (barr E 8 (cpI h2 h 0 0 8))) (c + 3) (iarr E 8 s)) (c + 4) (iarr E 8 t))) (up_at2 (by omega) (by omega)).symm ?_
  refine x_bext (c := (c + 2)) (g' := h2) K (cel_ne (cel_ne (cel_self hc2.1) (by omega)) (by omega)) (cpI_all) ?_
  refine x_v (w := (va_up (va_up (va_up (va_up (va_up v c (.inr (4, [.ref (B + (c + 1)), .ref (B + (c + 2)), .int (zI (m : Int)), .ref (B + (c + 3)), .ref (B + (c + 4))]))) (c + 1) (iarr E 8 g2)) (c + 2) (barr E 8 h2)) (c + 3) (iarr E 8 s)) (c + 4) (iarr E 8 t))) (up_at2 (by omega) (by omega)).symm ?_
  refine x_aload_n (pc := 38) 1 K rfl rfl dX4_become_38 ?_
  refine x_get (pc := 39) (C := RX4) (T := TX4) (n := 5) (ci := 4) (idx := 23) (ref := "BorderBeds$Line") (x := .ref (B + (d + 3)))  K (cel_ne (cel_ne (cel_ne (cel_ne (cel_ne hc5 (by omega)) (by omega)) (by omega)) (by omega)) (by omega)) rfl (by decide +kernel) 3 (by decide) (by decide +kernel) rfl rfl dX4_become_39 ?_
  refine x_iconst (pc := 42) K dX4_become_42 ?_
  refine x_aload_n (pc := 43) 0 K rfl rfl dX4_become_43 ?_
  refine x_get (pc := 44) (C := RX4) (T := TX4) (n := 5) (ci := 4) (idx := 23) (ref := "BorderBeds$Line") (x := .ref (B + (c + 3)))  K (cel_ne (cel_ne (cel_ne (cel_ne (cel_self hc0.1) (by omega)) (by omega)) (by omega)) (by omega)) rfl (by decide +kernel) 3 (by decide) (by decide +kernel) rfl rfl dX4_become_44 ?_
  refine x_iconst (pc := 47) K dX4_become_47 ?_
  refine x_bipush (pc := 48) K (by decide) dX4_become_48 ?_
  refine x_copyI (pc := 50) (idx := 41) 0 0 8 K (by decide +kernel) (by decide +kernel) (by decide +kernel) (by decide +kernel) (cel_ne (cel_ne (cel_ne (cel_ne (cel_ne hc8 (by omega)) (by omega)) (by omega)) (by omega)) (by omega)) (cel_ne (cel_self hc3.1) (by omega)) (by first | rfl | omega) (by first | rfl | omega) (by first | rfl | omega) (by omega) (by omega) (by omega) (Nat.le_of_ble_eq_true rfl) (Nat.le_of_ble_eq_true rfl) dX4_become_50 ?_
  refine x_v (w := (va_up (va_up (va_up (va_up (va_up v c (.inr (4, [.ref (B + (c + 1)), .ref (B + (c + 2)), .int (zI (m : Int)), .ref (B + (c + 3)), .ref (B + (c + 4))]))) (c + 1) (iarr E 8 g2)) (c + 2) (barr E 8 h2)) (c + 3) (iarr E 8 (cpI s2 s 0 0 8))) (c + 4) (iarr E 8 t))) (up_at1 (by omega)).symm ?_
  refine x_iext (c := (c + 3)) (g' := s2) K (cel_ne (cel_self hc3.1) (by omega)) (cpI_all) ?_
  refine x_v (w := (va_up (va_up (va_up (va_up (va_up v c (.inr (4, [.ref (B + (c + 1)), .ref (B + (c + 2)), .int (zI (m : Int)), .ref (B + (c + 3)), .ref (B + (c + 4))]))) (c + 1) (iarr E 8 g2)) (c + 2) (barr E 8 h2)) (c + 3) (iarr E 8 s2)) (c + 4) (iarr E 8 t))) (up_at1 (by omega)).symm ?_
  refine x_aload_n (pc := 53) 1 K rfl rfl dX4_become_53 ?_
  refine x_get (pc := 54) (C := RX4) (T := TX4) (n := 5) (ci := 4) (idx := 26) (ref := "BorderBeds$Line") (x := .ref (B + (d + 4)))  K (cel_ne (cel_ne (cel_ne (cel_ne (cel_ne hc5 (by omega)) (by omega)) (by omega)) (by omega)) (by omega)) rfl (by decide +kernel) 4 (by decide) (by decide +kernel) rfl rfl dX4_become_54 ?_
  refine x_iconst (pc := 57) K dX4_become_57 ?_
  refine x_aload_n (pc := 58) 0 K rfl rfl dX4_become_58 ?_
  refine x_get (pc := 59) (C := RX4) (T := TX4) (n := 5) (ci := 4) (idx := 26) (ref := "BorderBeds$Line") (x := .ref (B + (c + 4)))  K (cel_ne (cel_ne (cel_ne (cel_ne (cel_self hc0.1) (by omega)) (by omega)) (by omega)) (by omega)) rfl (by decide +kernel) 4 (by decide) (by decide +kernel) rfl rfl dX4_become_59 ?_
  refine x_iconst (pc := 62) K dX4_become_62 ?_
  refine x_bipush (pc := 63) K (by decide) dX4_become_63 ?_
  refine x_copyI (pc := 65) (idx := 41) 0 0 8 K (by decide +kernel) (by decide +kernel) (by decide +kernel) (by decide +kernel) (cel_ne (cel_ne (cel_ne (cel_ne (cel_ne hc9 (by omega)) (by omega)) (by omega)) (by omega)) (by omega)) (cel_self hc4.1) (by first | rfl | omega) (by first | rfl | omega) (by first | rfl | omega) (by omega) (by omega) (by omega) (Nat.le_of_ble_eq_true rfl) (Nat.le_of_ble_eq_true rfl) dX4_become_65 ?_
  refine x_v (w := (va_up (va_up (va_up (va_up (va_up v c (.inr (4, [.ref (B + (c + 1)), .ref (B + (c + 2)), .int (zI (m : Int)), .ref (B + (c + 3)), .ref (B + (c + 4))]))) (c + 1) (iarr E 8 g2)) (c + 2) (barr E 8 h2)) (c + 3) (iarr E 8 s2)) (c + 4) (iarr E 8 (cpI t2 t 0 0 8)))) (up_at0).symm ?_
  refine x_iext (c := (c + 4)) (g' := t2) K (cel_self hc4.1) (cpI_all) ?_
  refine x_v (w := (va_up (va_up (va_up (va_up (va_up v c (.inr (4, [.ref (B + (c + 1)), .ref (B + (c + 2)), .int (zI (m : Int)), .ref (B + (c + 3)), .ref (B + (c + 4))]))) (c + 1) (iarr E 8 g2)) (c + 2) (barr E 8 h2)) (c + 3) (iarr E 8 s2)) (c + 4) (iarr E 8 t2))) (up_at0).symm ?_
  refine x_vret (pc := 68) K KR (by omega) (Nat.le_of_ble_eq_true rfl) (Nat.le_of_ble_eq_true rfl) dX4_become_68 ?_
  exact ⟨rfl, rfl, rfl⟩

set_option maxRecDepth 100000 in
set_option maxHeartbeats 4000000 in
theorem c_X4_ownerOf {E : XE} {B N : Nat} {v : Nat → va_E} {c n cell : Nat} {s t : Nat → Int} {w e : Int} {l : Cor} {cell_i : Int} (ha_cell : cell_i = (cell : Int)) (hc0 : Cel N v c (.inr (4, [.ref (B + (c + 1)), .ref (B + (c + 2)), .int (zI (n : Int)), .ref (B + (c + 3)), .ref (B + (c + 4))]))) (hc1 : Cel N v (c + 3) (iarr E 8 s)) (hc2 : Cel N v (c + 4) (iarr E 8 t)) (hq0 : SR w e l s t) (hq1 : cell ≤ 47) : gM yX4_ownerOf wsX4_ownerOf ({ frames := 0, cells := 0, slots := 0, locals := 0 }) E B N v [.ref (B + c), .int (zI cell_i)] (po0 N (fun ρ v' => ρ = some (.int (zI (whoseA w e l cell))) ∧ v = v')) := by
  subst ha_cell
  refine x_met (nm := "ownerOf") (by decide +kernel) rfl (Nat.le_of_ble_eq_true rfl) rfl (fun Γ K KR hnL hnm => ?_)
  show XW Γ N v [(0, .ref (B + c)), (1, .int (zI (cell : Int)))] 0 0 0 []
  have hsr := hq0.cell hq1
  have hwr := whoseA_rng w e l cell
  refine x_iload_n (pc := 0) 1 K rfl rfl dX4_ownerOf_0 ?_
  refine x_bipush (pc := 1) K (by decide) dX4_ownerOf_1 ?_
  refine x_irem (pc := 3) K (by omega) (by omega) dX4_ownerOf_3 ?_
  refine x_nmN (m := (cell % 8)) (by omega) (fun z1 hz1 => ?_)
  refine x_istore_n (pc := 4) K (L' := [(2, .int (zI (z1 : Int))), (0, .ref (B + c)), (1, .int (zI (cell : Int)))]) hnL rfl (by decide) rfl dX4_ownerOf_4 ?_
  rw [← hz1] at hsr
  refine x_iload_n (pc := 5) 2 K rfl rfl dX4_ownerOf_5 ?_
  refine x_bipush (pc := 6) K (by decide) dX4_ownerOf_6 ?_
  refine x_idiv (pc := 8) K (by omega) (by omega) dX4_ownerOf_8 ?_
  refine x_nmN (m := (cell / 8)) (by omega) (fun z2 hz2 => ?_)
  refine x_istore_n (pc := 9) K (L' := [(3, .int (zI (z2 : Int))), (2, .int (zI (z1 : Int))), (0, .ref (B + c)), (1, .int (zI (cell : Int)))]) hnL rfl (by decide) rfl dX4_ownerOf_9 ?_
  refine x_iload_n (pc := 10) 0 K rfl rfl dX4_ownerOf_10 ?_
  refine x_aload_n (pc := 11) 2 K rfl rfl dX4_ownerOf_11 ?_
  refine x_get (pc := 12) (C := RX4) (T := TX4) (n := 5) (ci := 4) (idx := 23) (ref := "BorderBeds$Line") (x := .ref (B + (c + 3)))  K hc0 rfl (by decide +kernel) 3 (by decide) (by decide +kernel) rfl rfl dX4_ownerOf_12 ?_
  refine x_iload_n (pc := 15) 1 K rfl rfl dX4_ownerOf_15 ?_
  refine x_iald (pc := 16) z1 K hc1 rfl (by omega) (by decide) dX4_ownerOf_16 ?_
  refine x_icmp_ge (pc := 17) (tgt := 24) K (by omega) (by omega) dX4_ownerOf_17 (by decide) (fun h_17 => ?_) (fun h_17 => ?_)
  · skip
    refine x_iload_n (pc := 24) 0 K rfl rfl dX4_ownerOf_24 ?_
    refine x_aload_n (pc := 25) 2 K rfl rfl dX4_ownerOf_25 ?_
    refine x_get (pc := 26) (C := RX4) (T := TX4) (n := 5) (ci := 4) (idx := 26) (ref := "BorderBeds$Line") (x := .ref (B + (c + 4)))  K hc0 rfl (by decide +kernel) 4 (by decide) (by decide +kernel) rfl rfl dX4_ownerOf_26 ?_
    refine x_iload_n (pc := 29) 1 K rfl rfl dX4_ownerOf_29 ?_
    refine x_iald (pc := 30) z1 K hc2 rfl (by omega) (by decide) dX4_ownerOf_30 ?_
    refine x_icmp_lt (pc := 31) (tgt := 38) K (by omega) (by omega) dX4_ownerOf_31 (by decide) (fun h_31 => ?_) (fun h_31 => ?_)
    · skip
      refine x_iconst (pc := 38) K dX4_ownerOf_38 ?_
      refine x_iret (pc := 39) K KR (by omega) (Nat.le_of_ble_eq_true rfl) (Nat.le_of_ble_eq_true rfl) dX4_ownerOf_39 ?_
      exact ⟨rfl, ri (by omega), rfl⟩
    · skip
      refine x_iconst (pc := 34) K dX4_ownerOf_34 ?_
      refine x_goto (pc := 35) (tgt := 39) K dX4_ownerOf_35 (by decide) ?_
      refine x_iret (pc := 39) K KR (by omega) (Nat.le_of_ble_eq_true rfl) (Nat.le_of_ble_eq_true rfl) dX4_ownerOf_39 ?_
      exact ⟨rfl, ri (by omega), rfl⟩
  · skip
    refine x_iconst (pc := 20) K dX4_ownerOf_20 ?_
    refine x_goto (pc := 21) (tgt := 39) K dX4_ownerOf_21 (by decide) ?_
    refine x_iret (pc := 39) K KR (by omega) (Nat.le_of_ble_eq_true rfl) (Nat.le_of_ble_eq_true rfl) dX4_ownerOf_39 ?_
    exact ⟨rfl, ri (by omega), rfl⟩
