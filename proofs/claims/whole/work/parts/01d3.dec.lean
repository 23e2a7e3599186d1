theorem dX4_layBetween_1 : decode cX4_layBetween 1 = .ok (.iload_n 1, 1) := by decide +kernel
theorem dX4_layBetween_2 : decode cX4_layBetween 2 = .ok (.isub, 1) := by decide +kernel
theorem dX4_layBetween_3 : decode cX4_layBetween 3 = .ok (.istore 5, 2) := by decide +kernel
theorem dX4_layBetween_5 : decode cX4_layBetween 5 = .ok (.iload 5, 2) := by decide +kernel
theorem dX4_layBetween_7 : decode cX4_layBetween 7 = .ok (.ifCond .gt 4, 3) := by decide +kernel
theorem dX4_layBetween_10 : decode cX4_layBetween 10 = .ok (.return_, 1) := by decide +kernel
theorem dX4_layBetween_11 : decode cX4_layBetween 11 = .ok (.iload_n 1, 1) := by decide +kernel
theorem dX4_layBetween_12 : decode cX4_layBetween 12 = .ok (.iconst 1, 1) := by decide +kernel
theorem dX4_layBetween_13 : decode cX4_layBetween 13 = .ok (.iadd, 1) := by decide +kernel
theorem dX4_layBetween_14 : decode cX4_layBetween 14 = .ok (.istore 6, 2) := by decide +kernel
theorem dX4_layBetween_16 : decode cX4_layBetween 16 = .ok (.iload 6, 2) := by decide +kernel
theorem dX4_layBetween_18 : decode cX4_layBetween 18 = .ok (.iload_n 3, 1) := by decide +kernel
theorem dX4_layBetween_19 : decode cX4_layBetween 19 = .ok (.if_icmp .gt 63, 3) := by decide +kernel
theorem dX4_layBetween_22 : decode cX4_layBetween 22 = .ok (.iload 6, 2) := by decide +kernel
theorem dX4_layBetween_24 : decode cX4_layBetween 24 = .ok (.bipush 8, 2) := by decide +kernel
theorem dX4_layBetween_26 : decode cX4_layBetween 26 = .ok (.if_icmp .ge 56, 3) := by decide +kernel
theorem dX4_layBetween_29 : decode cX4_layBetween 29 = .ok (.iload_n 2, 1) := by decide +kernel
theorem dX4_layBetween_30 : decode cX4_layBetween 30 = .ok (.iload 5, 2) := by decide +kernel
theorem dX4_layBetween_32 : decode cX4_layBetween 32 = .ok (.imul, 1) := by decide +kernel
theorem dX4_layBetween_33 : decode cX4_layBetween 33 = .ok (.iload 4, 2) := by decide +kernel
theorem dX4_layBetween_35 : decode cX4_layBetween 35 = .ok (.iload_n 2, 1) := by decide +kernel
theorem dX4_layBetween_36 : decode cX4_layBetween 36 = .ok (.isub, 1) := by decide +kernel
theorem dX4_layBetween_37 : decode cX4_layBetween 37 = .ok (.iload 6, 2) := by decide +kernel
theorem dX4_layBetween_39 : decode cX4_layBetween 39 = .ok (.iload_n 1, 1) := by decide +kernel
theorem dX4_layBetween_40 : decode cX4_layBetween 40 = .ok (.isub, 1) := by decide +kernel
theorem dX4_layBetween_41 : decode cX4_layBetween 41 = .ok (.imul, 1) := by decide +kernel
theorem dX4_layBetween_42 : decode cX4_layBetween 42 = .ok (.iadd, 1) := by decide +kernel
theorem dX4_layBetween_43 : decode cX4_layBetween 43 = .ok (.istore 7, 2) := by decide +kernel
theorem dX4_layBetween_45 : decode cX4_layBetween 45 = .ok (.aload_n 0, 1) := by decide +kernel
theorem dX4_layBetween_46 : decode cX4_layBetween 46 = .ok (.getfield 23, 3) := by decide +kernel
theorem dX4_layBetween_49 : decode cX4_layBetween 49 = .ok (.iload 6, 2) := by decide +kernel
theorem dX4_layBetween_51 : decode cX4_layBetween 51 = .ok (.iload 7, 2) := by decide +kernel
theorem dX4_layBetween_53 : decode cX4_layBetween 53 = .ok (.iload 5, 2) := by decide +kernel
theorem dX4_layBetween_55 : decode cX4_layBetween 55 = .ok (.iadd, 1) := by decide +kernel
theorem dX4_layBetween_56 : decode cX4_layBetween 56 = .ok (.iconst 1, 1) := by decide +kernel
theorem dX4_layBetween_57 : decode cX4_layBetween 57 = .ok (.isub, 1) := by decide +kernel
theorem dX4_layBetween_58 : decode cX4_layBetween 58 = .ok (.iload 5, 2) := by decide +kernel
theorem dX4_layBetween_60 : decode cX4_layBetween 60 = .ok (.idiv, 1) := by decide +kernel
theorem dX4_layBetween_61 : decode cX4_layBetween 61 = .ok (.iastore, 1) := by decide +kernel
theorem dX4_layBetween_62 : decode cX4_layBetween 62 = .ok (.aload_n 0, 1) := by decide +kernel
theorem dX4_layBetween_63 : decode cX4_layBetween 63 = .ok (.getfield 26, 3) := by decide +kernel
theorem dX4_layBetween_66 : decode cX4_layBetween 66 = .ok (.iload 6, 2) := by decide +kernel
theorem dX4_layBetween_68 : decode cX4_layBetween 68 = .ok (.iload 7, 2) := by decide +kernel
theorem dX4_layBetween_70 : decode cX4_layBetween 70 = .ok (.iload 5, 2) := by decide +kernel
theorem dX4_layBetween_72 : decode cX4_layBetween 72 = .ok (.idiv, 1) := by decide +kernel
theorem dX4_layBetween_73 : decode cX4_layBetween 73 = .ok (.iconst 1, 1) := by decide +kernel
theorem dX4_layBetween_74 : decode cX4_layBetween 74 = .ok (.iadd, 1) := by decide +kernel
theorem dX4_layBetween_75 : decode cX4_layBetween 75 = .ok (.iastore, 1) := by decide +kernel
theorem dX4_layBetween_76 : decode cX4_layBetween 76 = .ok (.iinc 6 1, 3) := by decide +kernel
theorem dX4_layBetween_79 : decode cX4_layBetween 79 = .ok (.goto (-63), 3) := by decide +kernel
theorem dX4_layBetween_82 : decode cX4_layBetween 82 = .ok (.return_, 1) := by decide +kernel
theorem dX4_ownerOf_0 : decode cX4_ownerOf 0 = .ok (.iload_n 1, 1) := by decide +kernel
theorem dX4_ownerOf_1 : decode cX4_ownerOf 1 = .ok (.bipush 8, 2) := by decide +kernel
theorem dX4_ownerOf_3 : decode cX4_ownerOf 3 = .ok (.irem, 1) := by decide +kernel
theorem dX4_ownerOf_4 : decode cX4_ownerOf 4 = .ok (.istore_n 2, 1) := by decide +kernel
theorem dX4_ownerOf_5 : decode cX4_ownerOf 5 = .ok (.iload_n 1, 1) := by decide +kernel
theorem dX4_ownerOf_6 : decode cX4_ownerOf 6 = .ok (.bipush 8, 2) := by decide +kernel
theorem dX4_ownerOf_8 : decode cX4_ownerOf 8 = .ok (.idiv, 1) := by decide +kernel
theorem dX4_ownerOf_9 : decode cX4_ownerOf 9 = .ok (.istore_n 3, 1) := by decide +kernel
theorem dX4_ownerOf_10 : decode cX4_ownerOf 10 = .ok (.iload_n 3, 1) := by decide +kernel
theorem dX4_ownerOf_11 : decode cX4_ownerOf 11 = .ok (.aload_n 0, 1) := by decide +kernel
theorem dX4_ownerOf_12 : decode cX4_ownerOf 12 = .ok (.getfield 23, 3) := by decide +kernel
theorem dX4_ownerOf_15 : decode cX4_ownerOf 15 = .ok (.iload_n 2, 1) := by decide +kernel
theorem dX4_ownerOf_16 : decode cX4_ownerOf 16 = .ok (.iaload, 1) := by decide +kernel
theorem dX4_ownerOf_17 : decode cX4_ownerOf 17 = .ok (.if_icmp .ge 7, 3) := by decide +kernel
theorem dX4_ownerOf_20 : decode cX4_ownerOf 20 = .ok (.iconst 0, 1) := by decide +kernel
theorem dX4_ownerOf_21 : decode cX4_ownerOf 21 = .ok (.goto 18, 3) := by decide +kernel
theorem dX4_ownerOf_24 : decode cX4_ownerOf 24 = .ok (.iload_n 3, 1) := by decide +kernel
theorem dX4_ownerOf_25 : decode cX4_ownerOf 25 = .ok (.aload_n 0, 1) := by decide +kernel
theorem dX4_ownerOf_26 : decode cX4_ownerOf 26 = .ok (.getfield 26, 3) := by decide +kernel
theorem dX4_ownerOf_29 : decode cX4_ownerOf 29 = .ok (.iload_n 2, 1) := by decide +kernel
theorem dX4_ownerOf_30 : decode cX4_ownerOf 30 = .ok (.iaload, 1) := by decide +kernel
theorem dX4_ownerOf_31 : decode cX4_ownerOf 31 = .ok (.if_icmp .lt 7, 3) := by decide +kernel
theorem dX4_ownerOf_34 : decode cX4_ownerOf 34 = .ok (.iconst 1, 1) := by decide +kernel
theorem dX4_ownerOf_35 : decode cX4_ownerOf 35 = .ok (.goto 4, 3) := by decide +kernel
theorem dX4_ownerOf_38 : decode cX4_ownerOf 38 = .ok (.iconst (-1), 1) := by decide +kernel
theorem dX4_ownerOf_39 : decode cX4_ownerOf 39 = .ok (.ireturn, 1) := by decide +kernel
theorem dX4_liesAs_0 : decode cX4_liesAs 0 = .ok (.iconst 0, 1) := by decide +kernel
theorem dX4_liesAs_1 : decode cX4_liesAs 1 = .ok (.istore_n 3, 1) := by decide +kernel
theorem dX4_liesAs_2 : decode cX4_liesAs 2 = .ok (.iload_n 3, 1) := by decide +kernel
theorem dX4_liesAs_3 : decode cX4_liesAs 3 = .ok (.bipush 8, 2) := by decide +kernel
theorem dX4_liesAs_5 : decode cX4_liesAs 5 = .ok (.if_icmp .ge 28, 3) := by decide +kernel
theorem dX4_liesAs_8 : decode cX4_liesAs 8 = .ok (.aload_n 0, 1) := by decide +kernel
theorem dX4_liesAs_9 : decode cX4_liesAs 9 = .ok (.getfield 23, 3) := by decide +kernel
theorem dX4_liesAs_12 : decode cX4_liesAs 12 = .ok (.iload_n 3, 1) := by decide +kernel
theorem dX4_liesAs_13 : decode cX4_liesAs 13 = .ok (.iaload, 1) := by decide +kernel
theorem dX4_liesAs_14 : decode cX4_liesAs 14 = .ok (.aload_n 1, 1) := by decide +kernel
theorem dX4_liesAs_15 : decode cX4_liesAs 15 = .ok (.getfield 79, 3) := by decide +kernel
theorem dX4_liesAs_18 : decode cX4_liesAs 18 = .ok (.iload_n 2, 1) := by decide +kernel
theorem dX4_liesAs_19 : decode cX4_liesAs 19 = .ok (.iload_n 3, 1) := by decide +kernel
theorem dX4_liesAs_20 : decode cX4_liesAs 20 = .ok (.iadd, 1) := by decide +kernel
theorem dX4_liesAs_21 : decode cX4_liesAs 21 = .ok (.iaload, 1) := by decide +kernel
theorem dX4_liesAs_22 : decode cX4_liesAs 22 = .ok (.if_icmp .eq 5, 3) := by decide +kernel
theorem dX4_liesAs_25 : decode cX4_liesAs 25 = .ok (.iconst 0, 1) := by decide +kernel
theorem dX4_liesAs_26 : decode cX4_liesAs 26 = .ok (.ireturn, 1) := by decide +kernel
theorem dX4_liesAs_27 : decode cX4_liesAs 27 = .ok (.iinc 3 1, 3) := by decide +kernel
theorem dX4_liesAs_30 : decode cX4_liesAs 30 = .ok (.goto (-28), 3) := by decide +kernel
theorem dX4_liesAs_33 : decode cX4_liesAs 33 = .ok (.iconst 1, 1) := by decide +kernel
theorem dX4_liesAs_34 : decode cX4_liesAs 34 = .ok (.ireturn, 1) := by decide +kernel
theorem dX3_init_0 : decode cX3_init 0 = .ok (.aload_n 0, 1) := by decide +kernel
theorem dX3_init_1 : decode cX3_init 1 = .ok (.invokespecial 3, 3) := by decide +kernel
theorem dX3_init_4 : decode cX3_init 4 = .ok (.aload_n 0, 1) := by decide +kernel
theorem dX3_init_5 : decode cX3_init 5 = .ok (.iconst 0, 1) := by decide +kernel
theorem dX3_init_6 : decode cX3_init 6 = .ok (.putfield 9, 3) := by decide +kernel
theorem dX3_init_9 : decode cX3_init 9 = .ok (.aload_n 0, 1) := by decide +kernel
theorem dX3_init_10 : decode cX3_init 10 = .ok (.iconst 0, 1) := by decide +kernel
theorem dX3_init_11 : decode cX3_init 11 = .ok (.putfield 15, 3) := by decide +kernel
theorem dX3_init_14 : decode cX3_init 14 = .ok (.aload_n 0, 1) := by decide +kernel
theorem dX3_init_15 : decode cX3_init 15 = .ok (.iconst 1, 1) := by decide +kernel
theorem dX3_init_16 : decode cX3_init 16 = .ok (.putfield 18, 3) := by decide +kernel
theorem dX3_init_19 : decode cX3_init 19 = .ok (.aload_n 0, 1) := by decide +kernel
theorem dX3_init_20 : decode cX3_init 20 = .ok (.bipush 48, 2) := by decide +kernel
theorem dX3_init_22 : decode cX3_init 22 = .ok (.newarray .int, 2) := by decide +kernel
theorem dX3_init_24 : decode cX3_init 24 = .ok (.putfield 21, 3) := by decide +kernel
theorem dX3_init_27 : decode cX3_init 27 = .ok (.aload_n 0, 1) := by decide +kernel
theorem dX3_init_28 : decode cX3_init 28 = .ok (.bipush 48, 2) := by decide +kernel
theorem dX3_init_30 : decode cX3_init 30 = .ok (.newarray .boolean, 2) := by decide +kernel
theorem dX3_init_32 : decode cX3_init 32 = .ok (.putfield 25, 3) := by decide +kernel
theorem dX3_init_35 : decode cX3_init 35 = .ok (.aload_n 0, 1) := by decide +kernel
theorem dX3_init_36 : decode cX3_init 36 = .ok (.iconst 0, 1) := by decide +kernel
theorem dX3_init_37 : decode cX3_init 37 = .ok (.putfield 29, 3) := by decide +kernel
theorem dX3_init_40 : decode cX3_init 40 = .ok (.aload_n 0, 1) := by decide +kernel
theorem dX3_init_41 : decode cX3_init 41 = .ok (.iconst 5, 1) := by decide +kernel
theorem dX3_init_42 : decode cX3_init 42 = .ok (.anewarray 32, 3) := by decide +kernel
theorem dX3_init_45 : decode cX3_init 45 = .ok (.putfield 34, 3) := by decide +kernel
theorem dX3_init_48 : decode cX3_init 48 = .ok (.aload_n 0, 1) := by decide +kernel
theorem dX3_init_49 : decode cX3_init 49 = .ok (.iconst 0, 1) := by decide +kernel
theorem dX3_init_50 : decode cX3_init 50 = .ok (.putfield 38, 3) := by decide +kernel
theorem dX3_init_53 : decode cX3_init 53 = .ok (.aload_n 0, 1) := by decide +kernel
theorem dX3_init_54 : decode cX3_init 54 = .ok (.bipush 8, 2) := by decide +kernel
theorem dX3_init_56 : decode cX3_init 56 = .ok (.bipush 7, 2) := by decide +kernel
theorem dX3_init_58 : decode cX3_init 58 = .ok (.multianewarray 41 2, 4) := by decide +kernel
theorem dX3_init_62 : decode cX3_init 62 = .ok (.putfield 43, 3) := by decide +kernel
theorem dX3_init_65 : decode cX3_init 65 = .ok (.aload_n 0, 1) := by decide +kernel
theorem dX3_init_66 : decode cX3_init 66 = .ok (.new 46, 3) := by decide +kernel
theorem dX3_init_69 : decode cX3_init 69 = .ok (.dup, 1) := by decide +kernel
theorem dX3_init_70 : decode cX3_init 70 = .ok (.invokespecial 48, 3) := by decide +kernel
theorem dX3_init_73 : decode cX3_init 73 = .ok (.putfield 49, 3) := by decide +kernel
theorem dX3_init_76 : decode cX3_init 76 = .ok (.aload_n 0, 1) := by decide +kernel
theorem dX3_init_77 : decode cX3_init 77 = .ok (.new 46, 3) := by decide +kernel
theorem dX3_init_80 : decode cX3_init 80 = .ok (.dup, 1) := by decide +kernel
theorem dX3_init_81 : decode cX3_init 81 = .ok (.invokespecial 48, 3) := by decide +kernel
theorem dX3_init_84 : decode cX3_init 84 = .ok (.putfield 53, 3) := by decide +kernel
theorem dX3_init_87 : decode cX3_init 87 = .ok (.return_, 1) := by decide +kernel
theorem dX3_addVillage_0 : decode cX3_addVillage 0 = .ok (.aload_n 0, 1) := by decide +kernel
theorem dX3_addVillage_1 : decode cX3_addVillage 1 = .ok (.getfield 21, 3) := by decide +kernel
theorem dX3_addVillage_4 : decode cX3_addVillage 4 = .ok (.bipush 8, 2) := by decide +kernel
theorem dX3_addVillage_6 : decode cX3_addVillage 6 = .ok (.iload_n 2, 1) := by decide +kernel
theorem dX3_addVillage_7 : decode cX3_addVillage 7 = .ok (.imul, 1) := by decide +kernel
theorem dX3_addVillage_8 : decode cX3_addVillage 8 = .ok (.iload_n 1, 1) := by decide +kernel
theorem dX3_addVillage_9 : decode cX3_addVillage 9 = .ok (.iadd, 1) := by decide +kernel
theorem dX3_addVillage_10 : decode cX3_addVillage 10 = .ok (.dup2, 1) := by decide +kernel
theorem dX3_addVillage_11 : decode cX3_addVillage 11 = .ok (.iaload, 1) := by decide +kernel
theorem dX3_addVillage_12 : decode cX3_addVillage 12 = .ok (.iload_n 3, 1) := by decide +kernel
theorem dX3_addVillage_13 : decode cX3_addVillage 13 = .ok (.iadd, 1) := by decide +kernel
theorem dX3_addVillage_14 : decode cX3_addVillage 14 = .ok (.iastore, 1) := by decide +kernel
theorem dX3_addVillage_15 : decode cX3_addVillage 15 = .ok (.iload_n 2, 1) := by decide +kernel
theorem dX3_addVillage_16 : decode cX3_addVillage 16 = .ok (.iconst 1, 1) := by decide +kernel
theorem dX3_addVillage_17 : decode cX3_addVillage 17 = .ok (.iadd, 1) := by decide +kernel
theorem dX3_addVillage_18 : decode cX3_addVillage 18 = .ok (.istore 4, 2) := by decide +kernel
theorem dX3_addVillage_20 : decode cX3_addVillage 20 = .ok (.iload 4, 2) := by decide +kernel
theorem dX3_addVillage_22 : decode cX3_addVillage 22 = .ok (.bipush 6, 2) := by decide +kernel
theorem dX3_addVillage_24 : decode cX3_addVillage 24 = .ok (.if_icmp .gt 22, 3) := by decide +kernel
theorem dX3_addVillage_27 : decode cX3_addVillage 27 = .ok (.aload_n 0, 1) := by decide +kernel
theorem dX3_addVillage_28 : decode cX3_addVillage 28 = .ok (.getfield 43, 3) := by decide +kernel
theorem dX3_addVillage_31 : decode cX3_addVillage 31 = .ok (.iload_n 1, 1) := by decide +kernel
theorem dX3_addVillage_32 : decode cX3_addVillage 32 = .ok (.aaload, 1) := by decide +kernel
theorem dX3_addVillage_33 : decode cX3_addVillage 33 = .ok (.iload 4, 2) := by decide +kernel
theorem dX3_addVillage_35 : decode cX3_addVillage 35 = .ok (.dup2, 1) := by decide +kernel
theorem dX3_addVillage_36 : decode cX3_addVillage 36 = .ok (.iaload, 1) := by decide +kernel
theorem dX3_addVillage_37 : decode cX3_addVillage 37 = .ok (.iload_n 3, 1) := by decide +kernel
theorem dX3_addVillage_38 : decode cX3_addVillage 38 = .ok (.iadd, 1) := by decide +kernel
theorem dX3_addVillage_39 : decode cX3_addVillage 39 = .ok (.iastore, 1) := by decide +kernel
theorem dX3_addVillage_40 : decode cX3_addVillage 40 = .ok (.iinc 4 1, 3) := by decide +kernel
theorem dX3_addVillage_43 : decode cX3_addVillage 43 = .ok (.goto (-23), 3) := by decide +kernel
theorem dX3_addVillage_46 : decode cX3_addVillage 46 = .ok (.aload_n 0, 1) := by decide +kernel
theorem dX3_addVillage_47 : decode cX3_addVillage 47 = .ok (.dup, 1) := by decide +kernel
theorem dX3_addVillage_48 : decode cX3_addVillage 48 = .ok (.getfield 29, 3) := by decide +kernel
theorem dX3_addVillage_51 : decode cX3_addVillage 51 = .ok (.iconst 1, 1) := by decide +kernel
theorem dX3_addVillage_52 : decode cX3_addVillage 52 = .ok (.iadd, 1) := by decide +kernel
theorem dX3_addVillage_53 : decode cX3_addVillage 53 = .ok (.putfield 29, 3) := by decide +kernel
theorem dX3_addVillage_56 : decode cX3_addVillage 56 = .ok (.return_, 1) := by decide +kernel
theorem dX3_addPerson_0 : decode cX3_addPerson 0 = .ok (.aload_n 0, 1) := by decide +kernel
theorem dX3_addPerson_1 : decode cX3_addPerson 1 = .ok (.getfield 38, 3) := by decide +kernel
theorem dX3_addPerson_4 : decode cX3_addPerson 4 = .ok (.iconst 5, 1) := by decide +kernel
theorem dX3_addPerson_5 : decode cX3_addPerson 5 = .ok (.if_icmp .ge 34, 3) := by decide +kernel
theorem dX3_addPerson_8 : decode cX3_addPerson 8 = .ok (.aload_n 0, 1) := by decide +kernel
theorem dX3_addPerson_9 : decode cX3_addPerson 9 = .ok (.getfield 34, 3) := by decide +kernel
theorem dX3_addPerson_12 : decode cX3_addPerson 12 = .ok (.aload_n 0, 1) := by decide +kernel
theorem dX3_addPerson_13 : decode cX3_addPerson 13 = .ok (.getfield 38, 3) := by decide +kernel
theorem dX3_addPerson_16 : decode cX3_addPerson 16 = .ok (.iload_n 1, 1) := by decide +kernel
theorem dX3_addPerson_17 : decode cX3_addPerson 17 = .ok (.aload_n 0, 1) := by decide +kernel
theorem dX3_addPerson_18 : decode cX3_addPerson 18 = .ok (.getfield 38, 3) := by decide +kernel
theorem dX3_addPerson_21 : decode cX3_addPerson 21 = .ok (.iload_n 2, 1) := by decide +kernel
theorem dX3_addPerson_22 : decode cX3_addPerson 22 = .ok (.iload_n 3, 1) := by decide +kernel
theorem dX3_addPerson_23 : decode cX3_addPerson 23 = .ok (.iload 4, 2) := by decide +kernel
theorem dX3_addPerson_25 : decode cX3_addPerson 25 = .ok (.invokestatic 56, 3) := by decide +kernel
theorem dX3_addPerson_28 : decode cX3_addPerson 28 = .ok (.aastore, 1) := by decide +kernel
theorem dX3_addPerson_29 : decode cX3_addPerson 29 = .ok (.aload_n 0, 1) := by decide +kernel
theorem dX3_addPerson_30 : decode cX3_addPerson 30 = .ok (.dup, 1) := by decide +kernel
theorem dX3_addPerson_31 : decode cX3_addPerson 31 = .ok (.getfield 38, 3) := by decide +kernel
theorem dX3_addPerson_34 : decode cX3_addPerson 34 = .ok (.iconst 1, 1) := by decide +kernel
theorem dX3_addPerson_35 : decode cX3_addPerson 35 = .ok (.iadd, 1) := by decide +kernel
theorem dX3_addPerson_36 : decode cX3_addPerson 36 = .ok (.putfield 38, 3) := by decide +kernel
theorem dX3_addPerson_39 : decode cX3_addPerson 39 = .ok (.return_, 1) := by decide +kernel
theorem dX3_personOf_0 : decode cX3_personOf 0 = .ok (.iload_n 0, 1) := by decide +kernel
theorem dX3_personOf_1 : decode cX3_personOf 1 = .ok (.tableswitch 83 1 4 #[31, 44, 57, 70], 31) := by decide +kernel
theorem dX3_personOf_32 : decode cX3_personOf 32 = .ok (.new 60, 3) := by decide +kernel
theorem dX3_personOf_35 : decode cX3_personOf 35 = .ok (.dup, 1) := by decide +kernel
theorem dX3_personOf_36 : decode cX3_personOf 36 = .ok (.iload_n 1, 1) := by decide +kernel
theorem dX3_personOf_37 : decode cX3_personOf 37 = .ok (.iload_n 2, 1) := by decide +kernel
theorem dX3_personOf_38 : decode cX3_personOf 38 = .ok (.iload_n 3, 1) := by decide +kernel
theorem dX3_personOf_39 : decode cX3_personOf 39 = .ok (.iload 4, 2) := by decide +kernel
theorem dX3_personOf_41 : decode cX3_personOf 41 = .ok (.invokespecial 62, 3) := by decide +kernel
theorem dX3_personOf_44 : decode cX3_personOf 44 = .ok (.areturn, 1) := by decide +kernel
theorem dX3_personOf_45 : decode cX3_personOf 45 = .ok (.new 65, 3) := by decide +kernel
theorem dX3_personOf_48 : decode cX3_personOf 48 = .ok (.dup, 1) := by decide +kernel
theorem dX3_personOf_49 : decode cX3_personOf 49 = .ok (.iload_n 1, 1) := by decide +kernel
theorem dX3_personOf_50 : decode cX3_personOf 50 = .ok (.iload_n 2, 1) := by decide +kernel
theorem dX3_personOf_51 : decode cX3_personOf 51 = .ok (.iload_n 3, 1) := by decide +kernel
theorem dX3_personOf_52 : decode cX3_personOf 52 = .ok (.iload 4, 2) := by decide +kernel
theorem dX3_personOf_54 : decode cX3_personOf 54 = .ok (.invokespecial 67, 3) := by decide +kernel
theorem dX3_personOf_57 : decode cX3_personOf 57 = .ok (.areturn, 1) := by decide +kernel
theorem dX3_personOf_58 : decode cX3_personOf 58 = .ok (.new 68, 3) := by decide +kernel
theorem dX3_personOf_61 : decode cX3_personOf 61 = .ok (.dup, 1) := by decide +kernel
theorem dX3_personOf_62 : decode cX3_personOf 62 = .ok (.iload_n 1, 1) := by decide +kernel
theorem dX3_personOf_63 : decode cX3_personOf 63 = .ok (.iload_n 2, 1) := by decide +kernel
theorem dX3_personOf_64 : decode cX3_personOf 64 = .ok (.iload_n 3, 1) := by decide +kernel
theorem dX3_personOf_65 : decode cX3_personOf 65 = .ok (.iload 4, 2) := by decide +kernel
theorem dX3_personOf_67 : decode cX3_personOf 67 = .ok (.invokespecial 70, 3) := by decide +kernel
theorem dX3_personOf_70 : decode cX3_personOf 70 = .ok (.areturn, 1) := by decide +kernel
theorem dX3_personOf_71 : decode cX3_personOf 71 = .ok (.new 71, 3) := by decide +kernel
theorem dX3_personOf_74 : decode cX3_personOf 74 = .ok (.dup, 1) := by decide +kernel
theorem dX3_personOf_75 : decode cX3_personOf 75 = .ok (.iload_n 1, 1) := by decide +kernel
theorem dX3_personOf_76 : decode cX3_personOf 76 = .ok (.iload_n 2, 1) := by decide +kernel
theorem dX3_personOf_77 : decode cX3_personOf 77 = .ok (.iload_n 3, 1) := by decide +kernel
theorem dX3_personOf_78 : decode cX3_personOf 78 = .ok (.iload 4, 2) := by decide +kernel
theorem dX3_personOf_80 : decode cX3_personOf 80 = .ok (.invokespecial 73, 3) := by decide +kernel
theorem dX3_personOf_83 : decode cX3_personOf 83 = .ok (.areturn, 1) := by decide +kernel
theorem dX3_personOf_84 : decode cX3_personOf 84 = .ok (.new 74, 3) := by decide +kernel
theorem dX3_personOf_87 : decode cX3_personOf 87 = .ok (.dup, 1) := by decide +kernel
theorem dX3_personOf_88 : decode cX3_personOf 88 = .ok (.iload_n 1, 1) := by decide +kernel
theorem dX3_personOf_89 : decode cX3_personOf 89 = .ok (.iload_n 2, 1) := by decide +kernel
theorem dX3_personOf_90 : decode cX3_personOf 90 = .ok (.iload_n 3, 1) := by decide +kernel
theorem dX3_personOf_91 : decode cX3_personOf 91 = .ok (.iload 4, 2) := by decide +kernel
theorem dX3_personOf_93 : decode cX3_personOf 93 = .ok (.invokespecial 76, 3) := by decide +kernel
theorem dX3_personOf_96 : decode cX3_personOf 96 = .ok (.areturn, 1) := by decide +kernel
theorem dX3_personAt_0 : decode cX3_personAt 0 = .ok (.iload_n 1, 1) := by decide +kernel
theorem dX3_personAt_1 : decode cX3_personAt 1 = .ok (.ifCond .lt 11, 3) := by decide +kernel
theorem dX3_personAt_4 : decode cX3_personAt 4 = .ok (.iload_n 1, 1) := by decide +kernel
theorem dX3_personAt_5 : decode cX3_personAt 5 = .ok (.aload_n 0, 1) := by decide +kernel
theorem dX3_personAt_6 : decode cX3_personAt 6 = .ok (.getfield 38, 3) := by decide +kernel
theorem dX3_personAt_9 : decode cX3_personAt 9 = .ok (.if_icmp .lt 7, 3) := by decide +kernel
theorem dX3_personAt_12 : decode cX3_personAt 12 = .ok (.aconst_null, 1) := by decide +kernel
theorem dX3_personAt_13 : decode cX3_personAt 13 = .ok (.goto 9, 3) := by decide +kernel
theorem dX3_personAt_16 : decode cX3_personAt 16 = .ok (.aload_n 0, 1) := by decide +kernel
theorem dX3_personAt_17 : decode cX3_personAt 17 = .ok (.getfield 34, 3) := by decide +kernel
theorem dX3_personAt_20 : decode cX3_personAt 20 = .ok (.iload_n 1, 1) := by decide +kernel
theorem dX3_personAt_21 : decode cX3_personAt 21 = .ok (.aaload, 1) := by decide +kernel
theorem dX3_personAt_22 : decode cX3_personAt 22 = .ok (.areturn, 1) := by decide +kernel
theorem dX3_cellsGuarded_0 : decode cX3_cellsGuarded 0 = .ok (.iconst 0, 1) := by decide +kernel
theorem dX3_cellsGuarded_1 : decode cX3_cellsGuarded 1 = .ok (.istore_n 1, 1) := by decide +kernel
theorem dX3_cellsGuarded_2 : decode cX3_cellsGuarded 2 = .ok (.iconst 0, 1) := by decide +kernel
theorem dX3_cellsGuarded_3 : decode cX3_cellsGuarded 3 = .ok (.istore_n 2, 1) := by decide +kernel
theorem dX3_cellsGuarded_4 : decode cX3_cellsGuarded 4 = .ok (.iload_n 2, 1) := by decide +kernel
theorem dX3_cellsGuarded_5 : decode cX3_cellsGuarded 5 = .ok (.bipush 48, 2) := by decide +kernel
theorem dX3_cellsGuarded_7 : decode cX3_cellsGuarded 7 = .ok (.if_icmp .ge 21, 3) := by decide +kernel
theorem dX3_cellsGuarded_10 : decode cX3_cellsGuarded 10 = .ok (.aload_n 0, 1) := by decide +kernel
theorem dX3_cellsGuarded_11 : decode cX3_cellsGuarded 11 = .ok (.getfield 25, 3) := by decide +kernel
theorem dX3_cellsGuarded_14 : decode cX3_cellsGuarded 14 = .ok (.iload_n 2, 1) := by decide +kernel
theorem dX3_cellsGuarded_15 : decode cX3_cellsGuarded 15 = .ok (.baload, 1) := by decide +kernel
theorem dX3_cellsGuarded_16 : decode cX3_cellsGuarded 16 = .ok (.ifCond .eq 6, 3) := by decide +kernel
theorem dX3_cellsGuarded_19 : decode cX3_cellsGuarded 19 = .ok (.iinc 1 1, 3) := by decide +kernel
theorem dX3_cellsGuarded_22 : decode cX3_cellsGuarded 22 = .ok (.iinc 2 1, 3) := by decide +kernel
theorem dX3_cellsGuarded_25 : decode cX3_cellsGuarded 25 = .ok (.goto (-21), 3) := by decide +kernel
theorem dX3_cellsGuarded_28 : decode cX3_cellsGuarded 28 = .ok (.iload_n 1, 1) := by decide +kernel
theorem dX3_cellsGuarded_29 : decode cX3_cellsGuarded 29 = .ok (.ireturn, 1) := by decide +kernel
theorem dX3_cellsOf_0 : decode cX3_cellsOf 0 = .ok (.iconst 0, 1) := by decide +kernel
theorem dX3_cellsOf_1 : decode cX3_cellsOf 1 = .ok (.istore_n 3, 1) := by decide +kernel
theorem dX3_cellsOf_2 : decode cX3_cellsOf 2 = .ok (.iconst 0, 1) := by decide +kernel
theorem dX3_cellsOf_3 : decode cX3_cellsOf 3 = .ok (.istore 4, 2) := by decide +kernel
theorem dX3_cellsOf_5 : decode cX3_cellsOf 5 = .ok (.iload 4, 2) := by decide +kernel
theorem dX3_cellsOf_7 : decode cX3_cellsOf 7 = .ok (.bipush 8, 2) := by decide +kernel
theorem dX3_cellsOf_9 : decode cX3_cellsOf 9 = .ok (.if_icmp .ge 36, 3) := by decide +kernel
theorem dX3_cellsOf_12 : decode cX3_cellsOf 12 = .ok (.iload_n 3, 1) := by decide +kernel
theorem dX3_cellsOf_13 : decode cX3_cellsOf 13 = .ok (.iload_n 1, 1) := by decide +kernel
theorem dX3_cellsOf_14 : decode cX3_cellsOf 14 = .ok (.ifCond .ne 13, 3) := by decide +kernel
theorem dX3_cellsOf_17 : decode cX3_cellsOf 17 = .ok (.aload_n 2, 1) := by decide +kernel
theorem dX3_cellsOf_18 : decode cX3_cellsOf 18 = .ok (.getfield 77, 3) := by decide +kernel
theorem dX3_cellsOf_21 : decode cX3_cellsOf 21 = .ok (.iload 4, 2) := by decide +kernel
theorem dX3_cellsOf_23 : decode cX3_cellsOf 23 = .ok (.iaload, 1) := by decide +kernel
theorem dX3_cellsOf_24 : decode cX3_cellsOf 24 = .ok (.goto 13, 3) := by decide +kernel
theorem dX3_cellsOf_27 : decode cX3_cellsOf 27 = .ok (.bipush 6, 2) := by decide +kernel
theorem dX3_cellsOf_29 : decode cX3_cellsOf 29 = .ok (.aload_n 2, 1) := by decide +kernel
theorem dX3_cellsOf_30 : decode cX3_cellsOf 30 = .ok (.getfield 80, 3) := by decide +kernel
theorem dX3_cellsOf_33 : decode cX3_cellsOf 33 = .ok (.iload 4, 2) := by decide +kernel
theorem dX3_cellsOf_35 : decode cX3_cellsOf 35 = .ok (.iaload, 1) := by decide +kernel
theorem dX3_cellsOf_36 : decode cX3_cellsOf 36 = .ok (.isub, 1) := by decide +kernel
theorem dX3_cellsOf_37 : decode cX3_cellsOf 37 = .ok (.iadd, 1) := by decide +kernel
theorem dX3_cellsOf_38 : decode cX3_cellsOf 38 = .ok (.istore_n 3, 1) := by decide +kernel
theorem dX3_cellsOf_39 : decode cX3_cellsOf 39 = .ok (.iinc 4 1, 3) := by decide +kernel
theorem dX3_cellsOf_42 : decode cX3_cellsOf 42 = .ok (.goto (-37), 3) := by decide +kernel
theorem dX3_cellsOf_45 : decode cX3_cellsOf 45 = .ok (.iload_n 3, 1) := by decide +kernel
theorem dX3_cellsOf_46 : decode cX3_cellsOf 46 = .ok (.ireturn, 1) := by decide +kernel
theorem dX3_worthOf_0 : decode cX3_worthOf 0 = .ok (.iconst 0, 1) := by decide +kernel
theorem dX3_worthOf_1 : decode cX3_worthOf 1 = .ok (.istore_n 3, 1) := by decide +kernel
theorem dX3_worthOf_2 : decode cX3_worthOf 2 = .ok (.iconst 0, 1) := by decide +kernel
theorem dX3_worthOf_3 : decode cX3_worthOf 3 = .ok (.istore 4, 2) := by decide +kernel
theorem dX3_worthOf_5 : decode cX3_worthOf 5 = .ok (.iload 4, 2) := by decide +kernel
theorem dX3_worthOf_7 : decode cX3_worthOf 7 = .ok (.bipush 8, 2) := by decide +kernel
theorem dX3_worthOf_9 : decode cX3_worthOf 9 = .ok (.if_icmp .ge 54, 3) := by decide +kernel
theorem dX3_worthOf_12 : decode cX3_worthOf 12 = .ok (.aload_n 0, 1) := by decide +kernel
theorem dX3_worthOf_13 : decode cX3_worthOf 13 = .ok (.getfield 43, 3) := by decide +kernel
theorem dX3_worthOf_16 : decode cX3_worthOf 16 = .ok (.iload 4, 2) := by decide +kernel
theorem dX3_worthOf_18 : decode cX3_worthOf 18 = .ok (.aaload, 1) := by decide +kernel
theorem dX3_worthOf_19 : decode cX3_worthOf 19 = .ok (.astore 5, 2) := by decide +kernel
theorem dX3_worthOf_21 : decode cX3_worthOf 21 = .ok (.iload_n 3, 1) := by decide +kernel
theorem dX3_worthOf_22 : decode cX3_worthOf 22 = .ok (.iload_n 1, 1) := by decide +kernel
theorem dX3_worthOf_23 : decode cX3_worthOf 23 = .ok (.ifCond .ne 16, 3) := by decide +kernel
theorem dX3_worthOf_26 : decode cX3_worthOf 26 = .ok (.aload 5, 2) := by decide +kernel
theorem dX3_worthOf_28 : decode cX3_worthOf 28 = .ok (.aload_n 2, 1) := by decide +kernel
theorem dX3_worthOf_29 : decode cX3_worthOf 29 = .ok (.getfield 77, 3) := by decide +kernel
theorem dX3_worthOf_32 : decode cX3_worthOf 32 = .ok (.iload 4, 2) := by decide +kernel
theorem dX3_worthOf_34 : decode cX3_worthOf 34 = .ok (.iaload, 1) := by decide +kernel
theorem dX3_worthOf_35 : decode cX3_worthOf 35 = .ok (.iaload, 1) := by decide +kernel
theorem dX3_worthOf_36 : decode cX3_worthOf 36 = .ok (.goto 19, 3) := by decide +kernel
theorem dX3_worthOf_39 : decode cX3_worthOf 39 = .ok (.aload 5, 2) := by decide +kernel
theorem dX3_worthOf_41 : decode cX3_worthOf 41 = .ok (.bipush 6, 2) := by decide +kernel
theorem dX3_worthOf_43 : decode cX3_worthOf 43 = .ok (.iaload, 1) := by decide +kernel
theorem dX3_worthOf_44 : decode cX3_worthOf 44 = .ok (.aload 5, 2) := by decide +kernel
theorem dX3_worthOf_46 : decode cX3_worthOf 46 = .ok (.aload_n 2, 1) := by decide +kernel
theorem dX3_worthOf_47 : decode cX3_worthOf 47 = .ok (.getfield 80, 3) := by decide +kernel
theorem dX3_worthOf_50 : decode cX3_worthOf 50 = .ok (.iload 4, 2) := by decide +kernel
theorem dX3_worthOf_52 : decode cX3_worthOf 52 = .ok (.iaload, 1) := by decide +kernel
theorem dX3_worthOf_53 : decode cX3_worthOf 53 = .ok (.iaload, 1) := by decide +kernel
theorem dX3_worthOf_54 : decode cX3_worthOf 54 = .ok (.isub, 1) := by decide +kernel
theorem dX3_worthOf_55 : decode cX3_worthOf 55 = .ok (.iadd, 1) := by decide +kernel
theorem dX3_worthOf_56 : decode cX3_worthOf 56 = .ok (.istore_n 3, 1) := by decide +kernel
theorem dX3_worthOf_57 : decode cX3_worthOf 57 = .ok (.iinc 4 1, 3) := by decide +kernel
theorem dX3_worthOf_60 : decode cX3_worthOf 60 = .ok (.goto (-55), 3) := by decide +kernel
theorem dX3_worthOf_63 : decode cX3_worthOf 63 = .ok (.iload_n 3, 1) := by decide +kernel
theorem dX3_worthOf_64 : decode cX3_worthOf 64 = .ok (.ireturn, 1) := by decide +kernel
theorem dX3_leadOf_0 : decode cX3_leadOf 0 = .ok (.aload_n 0, 1) := by decide +kernel
theorem dX3_leadOf_1 : decode cX3_leadOf 1 = .ok (.iload_n 1, 1) := by decide +kernel
theorem dX3_leadOf_2 : decode cX3_leadOf 2 = .ok (.aload_n 2, 1) := by decide +kernel
theorem dX3_leadOf_3 : decode cX3_leadOf 3 = .ok (.invokevirtual 83, 3) := by decide +kernel
theorem dX3_leadOf_6 : decode cX3_leadOf 6 = .ok (.aload_n 0, 1) := by decide +kernel
theorem dX3_leadOf_7 : decode cX3_leadOf 7 = .ok (.iconst 1, 1) := by decide +kernel
theorem dX3_leadOf_8 : decode cX3_leadOf 8 = .ok (.iload_n 1, 1) := by decide +kernel
theorem dX3_leadOf_9 : decode cX3_leadOf 9 = .ok (.isub, 1) := by decide +kernel
theorem dX3_leadOf_10 : decode cX3_leadOf 10 = .ok (.aload_n 2, 1) := by decide +kernel
theorem dX3_leadOf_11 : decode cX3_leadOf 11 = .ok (.invokevirtual 83, 3) := by decide +kernel
theorem dX3_leadOf_14 : decode cX3_leadOf 14 = .ok (.isub, 1) := by decide +kernel
theorem dX3_leadOf_15 : decode cX3_leadOf 15 = .ok (.ireturn, 1) := by decide +kernel
theorem dX3_mayCross_0 : decode cX3_mayCross 0 = .ok (.iload_n 2, 1) := by decide +kernel
theorem dX3_mayCross_1 : decode cX3_mayCross 1 = .ok (.bipush 8, 2) := by decide +kernel
theorem dX3_mayCross_3 : decode cX3_mayCross 3 = .ok (.irem, 1) := by decide +kernel
theorem dX3_mayCross_4 : decode cX3_mayCross 4 = .ok (.aload_n 1, 1) := by decide +kernel
theorem dX3_mayCross_5 : decode cX3_mayCross 5 = .ok (.getfield 87, 3) := by decide +kernel
theorem dX3_mayCross_8 : decode cX3_mayCross 8 = .ok (.bipush 8, 2) := by decide +kernel
theorem dX3_mayCross_10 : decode cX3_mayCross 10 = .ok (.irem, 1) := by decide +kernel
theorem dX3_mayCross_11 : decode cX3_mayCross 11 = .ok (.isub, 1) := by decide +kernel
theorem dX3_mayCross_12 : decode cX3_mayCross 12 = .ok (.invokestatic 90, 3) := by decide +kernel
theorem dX3_mayCross_15 : decode cX3_mayCross 15 = .ok (.iload_n 2, 1) := by decide +kernel
theorem dX3_mayCross_16 : decode cX3_mayCross 16 = .ok (.bipush 8, 2) := by decide +kernel
theorem dX3_mayCross_18 : decode cX3_mayCross 18 = .ok (.idiv, 1) := by decide +kernel
theorem dX3_mayCross_19 : decode cX3_mayCross 19 = .ok (.aload_n 1, 1) := by decide +kernel
theorem dX3_mayCross_20 : decode cX3_mayCross 20 = .ok (.getfield 87, 3) := by decide +kernel
theorem dX3_mayCross_23 : decode cX3_mayCross 23 = .ok (.bipush 8, 2) := by decide +kernel
theorem dX3_mayCross_25 : decode cX3_mayCross 25 = .ok (.idiv, 1) := by decide +kernel
theorem dX3_mayCross_26 : decode cX3_mayCross 26 = .ok (.isub, 1) := by decide +kernel
theorem dX3_mayCross_27 : decode cX3_mayCross 27 = .ok (.invokestatic 90, 3) := by decide +kernel
theorem dX3_mayCross_30 : decode cX3_mayCross 30 = .ok (.iadd, 1) := by decide +kernel
theorem dX3_mayCross_31 : decode cX3_mayCross 31 = .ok (.istore 4, 2) := by decide +kernel
theorem dX3_mayCross_33 : decode cX3_mayCross 33 = .ok (.aload_n 0, 1) := by decide +kernel
theorem dX3_mayCross_34 : decode cX3_mayCross 34 = .ok (.getfield 25, 3) := by decide +kernel
theorem dX3_mayCross_37 : decode cX3_mayCross 37 = .ok (.iload_n 2, 1) := by decide +kernel
theorem dX3_mayCross_38 : decode cX3_mayCross 38 = .ok (.baload, 1) := by decide +kernel
theorem dX3_mayCross_39 : decode cX3_mayCross 39 = .ok (.ifCond .ne 28, 3) := by decide +kernel
theorem dX3_mayCross_42 : decode cX3_mayCross 42 = .ok (.iload 4, 2) := by decide +kernel
theorem dX3_mayCross_44 : decode cX3_mayCross 44 = .ok (.aload_n 1, 1) := by decide +kernel
theorem dX3_mayCross_45 : decode cX3_mayCross 45 = .ok (.invokevirtual 96, 3) := by decide +kernel
theorem dX3_mayCross_48 : decode cX3_mayCross 48 = .ok (.if_icmp .gt 19, 3) := by decide +kernel
theorem dX3_mayCross_51 : decode cX3_mayCross 51 = .ok (.aload_n 3, 1) := by decide +kernel
theorem dX3_mayCross_52 : decode cX3_mayCross 52 = .ok (.iload_n 2, 1) := by decide +kernel
theorem dX3_mayCross_53 : decode cX3_mayCross 53 = .ok (.invokevirtual 100, 3) := by decide +kernel
theorem dX3_mayCross_56 : decode cX3_mayCross 56 = .ok (.aload_n 1, 1) := by decide +kernel
theorem dX3_mayCross_57 : decode cX3_mayCross 57 = .ok (.getfield 103, 3) := by decide +kernel
theorem dX3_mayCross_60 : decode cX3_mayCross 60 = .ok (.if_icmp .eq 7, 3) := by decide +kernel
theorem dX3_mayCross_63 : decode cX3_mayCross 63 = .ok (.iconst 1, 1) := by decide +kernel
theorem dX3_mayCross_64 : decode cX3_mayCross 64 = .ok (.goto 4, 3) := by decide +kernel
theorem dX3_mayCross_67 : decode cX3_mayCross 67 = .ok (.iconst 0, 1) := by decide +kernel
theorem dX3_mayCross_68 : decode cX3_mayCross 68 = .ok (.ireturn, 1) := by decide +kernel
theorem dX3_waysOf_0 : decode cX3_waysOf 0 = .ok (.iconst 0, 1) := by decide +kernel
theorem dX3_waysOf_1 : decode cX3_waysOf 1 = .ok (.istore_n 3, 1) := by decide +kernel
theorem dX3_waysOf_2 : decode cX3_waysOf 2 = .ok (.iconst 0, 1) := by decide +kernel
theorem dX3_waysOf_3 : decode cX3_waysOf 3 = .ok (.istore 4, 2) := by decide +kernel
theorem dX3_waysOf_5 : decode cX3_waysOf 5 = .ok (.iload 4, 2) := by decide +kernel
theorem dX3_waysOf_7 : decode cX3_waysOf 7 = .ok (.bipush 48, 2) := by decide +kernel
theorem dX3_waysOf_9 : decode cX3_waysOf 9 = .ok (.if_icmp .ge 23, 3) := by decide +kernel
theorem dX3_waysOf_12 : decode cX3_waysOf 12 = .ok (.aload_n 0, 1) := by decide +kernel
theorem dX3_waysOf_13 : decode cX3_waysOf 13 = .ok (.aload_n 1, 1) := by decide +kernel
theorem dX3_waysOf_14 : decode cX3_waysOf 14 = .ok (.iload 4, 2) := by decide +kernel
theorem dX3_waysOf_16 : decode cX3_waysOf 16 = .ok (.aload_n 2, 1) := by decide +kernel
theorem dX3_waysOf_17 : decode cX3_waysOf 17 = .ok (.invokevirtual 106, 3) := by decide +kernel
theorem dX3_waysOf_20 : decode cX3_waysOf 20 = .ok (.ifCond .eq 6, 3) := by decide +kernel
theorem dX3_waysOf_23 : decode cX3_waysOf 23 = .ok (.iinc 3 1, 3) := by decide +kernel
theorem dX3_waysOf_26 : decode cX3_waysOf 26 = .ok (.iinc 4 1, 3) := by decide +kernel
theorem dX3_waysOf_29 : decode cX3_waysOf 29 = .ok (.goto (-24), 3) := by decide +kernel
theorem dX3_waysOf_32 : decode cX3_waysOf 32 = .ok (.iload_n 3, 1) := by decide +kernel
theorem dX3_waysOf_33 : decode cX3_waysOf 33 = .ok (.ireturn, 1) := by decide +kernel
theorem dX3_guessed_0 : decode cX3_guessed 0 = .ok (.aload_n 0, 1) := by decide +kernel
theorem dX3_guessed_1 : decode cX3_guessed 1 = .ok (.getfield 49, 3) := by decide +kernel
theorem dX3_guessed_4 : decode cX3_guessed 4 = .ok (.aload_n 3, 1) := by decide +kernel
theorem dX3_guessed_5 : decode cX3_guessed 5 = .ok (.invokevirtual 110, 3) := by decide +kernel
theorem dX3_guessed_8 : decode cX3_guessed 8 = .ok (.aload_n 0, 1) := by decide +kernel
theorem dX3_guessed_9 : decode cX3_guessed 9 = .ok (.getfield 49, 3) := by decide +kernel
theorem dX3_guessed_12 : decode cX3_guessed 12 = .ok (.aload_n 1, 1) := by decide +kernel
theorem dX3_guessed_13 : decode cX3_guessed 13 = .ok (.iload_n 2, 1) := by decide +kernel
theorem dX3_guessed_14 : decode cX3_guessed 14 = .ok (.aload_n 0, 1) := by decide +kernel
theorem dX3_guessed_15 : decode cX3_guessed 15 = .ok (.invokevirtual 114, 3) := by decide +kernel
theorem dX3_guessed_18 : decode cX3_guessed 18 = .ok (.aload_n 0, 1) := by decide +kernel
theorem dX3_guessed_19 : decode cX3_guessed 19 = .ok (.getfield 49, 3) := by decide +kernel
theorem dX3_guessed_22 : decode cX3_guessed 22 = .ok (.areturn, 1) := by decide +kernel
theorem dX3_leadBehind_0 : decode cX3_leadBehind 0 = .ok (.aload_n 0, 1) := by decide +kernel
theorem dX3_leadBehind_1 : decode cX3_leadBehind 1 = .ok (.aload_n 1, 1) := by decide +kernel
theorem dX3_leadBehind_2 : decode cX3_leadBehind 2 = .ok (.getfield 103, 3) := by decide +kernel
theorem dX3_leadBehind_5 : decode cX3_leadBehind 5 = .ok (.aload_n 0, 1) := by decide +kernel
theorem dX3_leadBehind_6 : decode cX3_leadBehind 6 = .ok (.aload_n 1, 1) := by decide +kernel
theorem dX3_leadBehind_7 : decode cX3_leadBehind 7 = .ok (.iload_n 2, 1) := by decide +kernel
theorem dX3_leadBehind_8 : decode cX3_leadBehind 8 = .ok (.aload_n 3, 1) := by decide +kernel
theorem dX3_leadBehind_9 : decode cX3_leadBehind 9 = .ok (.invokevirtual 118, 3) := by decide +kernel
theorem dX3_leadBehind_12 : decode cX3_leadBehind 12 = .ok (.invokevirtual 122, 3) := by decide +kernel
theorem dX3_leadBehind_15 : decode cX3_leadBehind 15 = .ok (.ireturn, 1) := by decide +kernel
theorem dX3_bestOf_0 : decode cX3_bestOf 0 = .ok (.ldc 125, 2) := by decide +kernel
theorem dX3_bestOf_2 : decode cX3_bestOf 2 = .ok (.istore_n 3, 1) := by decide +kernel
theorem dX3_bestOf_3 : decode cX3_bestOf 3 = .ok (.iconst 0, 1) := by decide +kernel
theorem dX3_bestOf_4 : decode cX3_bestOf 4 = .ok (.istore 4, 2) := by decide +kernel
theorem dX3_bestOf_6 : decode cX3_bestOf 6 = .ok (.iconst 0, 1) := by decide +kernel
theorem dX3_bestOf_7 : decode cX3_bestOf 7 = .ok (.istore 5, 2) := by decide +kernel
theorem dX3_bestOf_9 : decode cX3_bestOf 9 = .ok (.iconst 0, 1) := by decide +kernel
theorem dX3_bestOf_10 : decode cX3_bestOf 10 = .ok (.istore 6, 2) := by decide +kernel
theorem dX3_bestOf_12 : decode cX3_bestOf 12 = .ok (.iload 6, 2) := by decide +kernel
theorem dX3_bestOf_14 : decode cX3_bestOf 14 = .ok (.bipush 48, 2) := by decide +kernel
theorem dX3_bestOf_16 : decode cX3_bestOf 16 = .ok (.if_icmp .ge 92, 3) := by decide +kernel
theorem dX3_bestOf_19 : decode cX3_bestOf 19 = .ok (.aload_n 0, 1) := by decide +kernel
theorem dX3_bestOf_20 : decode cX3_bestOf 20 = .ok (.aload_n 1, 1) := by decide +kernel
theorem dX3_bestOf_21 : decode cX3_bestOf 21 = .ok (.iload 6, 2) := by decide +kernel
theorem dX3_bestOf_23 : decode cX3_bestOf 23 = .ok (.aload_n 2, 1) := by decide +kernel
theorem dX3_bestOf_24 : decode cX3_bestOf 24 = .ok (.invokevirtual 106, 3) := by decide +kernel
theorem dX3_bestOf_27 : decode cX3_bestOf 27 = .ok (.ifCond .eq 75, 3) := by decide +kernel
theorem dX3_bestOf_30 : decode cX3_bestOf 30 = .ok (.aload_n 0, 1) := by decide +kernel
theorem dX3_bestOf_31 : decode cX3_bestOf 31 = .ok (.aload_n 1, 1) := by decide +kernel
theorem dX3_bestOf_32 : decode cX3_bestOf 32 = .ok (.iload 6, 2) := by decide +kernel
theorem dX3_bestOf_34 : decode cX3_bestOf 34 = .ok (.aload_n 2, 1) := by decide +kernel
theorem dX3_bestOf_35 : decode cX3_bestOf 35 = .ok (.invokevirtual 118, 3) := by decide +kernel
theorem dX3_bestOf_38 : decode cX3_bestOf 38 = .ok (.astore 7, 2) := by decide +kernel
theorem dX3_bestOf_40 : decode cX3_bestOf 40 = .ok (.aload_n 0, 1) := by decide +kernel
theorem dX3_bestOf_41 : decode cX3_bestOf 41 = .ok (.aload_n 1, 1) := by decide +kernel
theorem dX3_bestOf_42 : decode cX3_bestOf 42 = .ok (.getfield 103, 3) := by decide +kernel
theorem dX3_bestOf_45 : decode cX3_bestOf 45 = .ok (.aload 7, 2) := by decide +kernel
theorem dX3_bestOf_47 : decode cX3_bestOf 47 = .ok (.invokevirtual 122, 3) := by decide +kernel
theorem dX3_bestOf_50 : decode cX3_bestOf 50 = .ok (.istore 8, 2) := by decide +kernel
theorem dX3_bestOf_52 : decode cX3_bestOf 52 = .ok (.aload_n 0, 1) := by decide +kernel
theorem dX3_bestOf_53 : decode cX3_bestOf 53 = .ok (.aload_n 1, 1) := by decide +kernel
theorem dX3_bestOf_54 : decode cX3_bestOf 54 = .ok (.getfield 103, 3) := by decide +kernel
theorem dX3_bestOf_57 : decode cX3_bestOf 57 = .ok (.aload 7, 2) := by decide +kernel
theorem dX3_bestOf_59 : decode cX3_bestOf 59 = .ok (.invokevirtual 126, 3) := by decide +kernel
theorem dX3_bestOf_62 : decode cX3_bestOf 62 = .ok (.istore 9, 2) := by decide +kernel
theorem dX3_bestOf_64 : decode cX3_bestOf 64 = .ok (.iload_n 3, 1) := by decide +kernel
theorem dX3_bestOf_65 : decode cX3_bestOf 65 = .ok (.ldc 125, 2) := by decide +kernel
theorem dX3_bestOf_67 : decode cX3_bestOf 67 = .ok (.if_icmp .eq 24, 3) := by decide +kernel
theorem dX3_bestOf_70 : decode cX3_bestOf 70 = .ok (.iload 8, 2) := by decide +kernel
theorem dX3_bestOf_72 : decode cX3_bestOf 72 = .ok (.iload 4, 2) := by decide +kernel
theorem dX3_bestOf_74 : decode cX3_bestOf 74 = .ok (.if_icmp .gt 17, 3) := by decide +kernel
theorem dX3_bestOf_77 : decode cX3_bestOf 77 = .ok (.iload 8, 2) := by decide +kernel
theorem dX3_bestOf_79 : decode cX3_bestOf 79 = .ok (.iload 4, 2) := by decide +kernel
theorem dX3_bestOf_81 : decode cX3_bestOf 81 = .ok (.if_icmp .ne 21, 3) := by decide +kernel
theorem dX3_bestOf_84 : decode cX3_bestOf 84 = .ok (.iload 9, 2) := by decide +kernel
theorem dX3_bestOf_86 : decode cX3_bestOf 86 = .ok (.iload 5, 2) := by decide +kernel
theorem dX3_bestOf_88 : decode cX3_bestOf 88 = .ok (.if_icmp .le 14, 3) := by decide +kernel
theorem dX3_bestOf_91 : decode cX3_bestOf 91 = .ok (.iload 6, 2) := by decide +kernel
theorem dX3_bestOf_93 : decode cX3_bestOf 93 = .ok (.istore_n 3, 1) := by decide +kernel
theorem dX3_bestOf_94 : decode cX3_bestOf 94 = .ok (.iload 8, 2) := by decide +kernel
theorem dX3_bestOf_96 : decode cX3_bestOf 96 = .ok (.istore 4, 2) := by decide +kernel
theorem dX3_bestOf_98 : decode cX3_bestOf 98 = .ok (.iload 9, 2) := by decide +kernel
theorem dX3_bestOf_100 : decode cX3_bestOf 100 = .ok (.istore 5, 2) := by decide +kernel
theorem dX3_bestOf_102 : decode cX3_bestOf 102 = .ok (.iinc 6 1, 3) := by decide +kernel
theorem dX3_bestOf_105 : decode cX3_bestOf 105 = .ok (.goto (-93), 3) := by decide +kernel
theorem dX3_bestOf_108 : decode cX3_bestOf 108 = .ok (.iload_n 3, 1) := by decide +kernel
theorem dX3_bestOf_109 : decode cX3_bestOf 109 = .ok (.ireturn, 1) := by decide +kernel
theorem dX3_lineBehind_0 : decode cX3_lineBehind 0 = .ok (.aload_n 0, 1) := by decide +kernel
theorem dX3_lineBehind_1 : decode cX3_lineBehind 1 = .ok (.getfield 53, 3) := by decide +kernel
theorem dX3_lineBehind_4 : decode cX3_lineBehind 4 = .ok (.aload_n 3, 1) := by decide +kernel
theorem dX3_lineBehind_5 : decode cX3_lineBehind 5 = .ok (.invokevirtual 110, 3) := by decide +kernel
theorem dX3_lineBehind_8 : decode cX3_lineBehind 8 = .ok (.iload_n 2, 1) := by decide +kernel
theorem dX3_lineBehind_9 : decode cX3_lineBehind 9 = .ok (.invokestatic 129, 3) := by decide +kernel
theorem dX3_lineBehind_12 : decode cX3_lineBehind 12 = .ok (.ifCond .eq 13, 3) := by decide +kernel
theorem dX3_lineBehind_15 : decode cX3_lineBehind 15 = .ok (.aload_n 0, 1) := by decide +kernel
theorem dX3_lineBehind_16 : decode cX3_lineBehind 16 = .ok (.getfield 53, 3) := by decide +kernel
theorem dX3_lineBehind_19 : decode cX3_lineBehind 19 = .ok (.aload_n 1, 1) := by decide +kernel
theorem dX3_lineBehind_20 : decode cX3_lineBehind 20 = .ok (.iload_n 2, 1) := by decide +kernel
theorem dX3_lineBehind_21 : decode cX3_lineBehind 21 = .ok (.aload_n 0, 1) := by decide +kernel
theorem dX3_lineBehind_22 : decode cX3_lineBehind 22 = .ok (.invokevirtual 114, 3) := by decide +kernel
theorem dX3_lineBehind_25 : decode cX3_lineBehind 25 = .ok (.aload_n 0, 1) := by decide +kernel
theorem dX3_lineBehind_26 : decode cX3_lineBehind 26 = .ok (.getfield 53, 3) := by decide +kernel
theorem dX3_lineBehind_29 : decode cX3_lineBehind 29 = .ok (.areturn, 1) := by decide +kernel
theorem dX3_leadPlayed_0 : decode cX3_leadPlayed 0 = .ok (.aload_n 0, 1) := by decide +kernel
theorem dX3_leadPlayed_1 : decode cX3_leadPlayed 1 = .ok (.aload_n 1, 1) := by decide +kernel
theorem dX3_leadPlayed_2 : decode cX3_leadPlayed 2 = .ok (.iload_n 2, 1) := by decide +kernel
theorem dX3_leadPlayed_3 : decode cX3_leadPlayed 3 = .ok (.aload 4, 2) := by decide +kernel
theorem dX3_leadPlayed_5 : decode cX3_leadPlayed 5 = .ok (.invokevirtual 133, 3) := by decide +kernel
theorem dX3_leadPlayed_8 : decode cX3_leadPlayed 8 = .ok (.astore 5, 2) := by decide +kernel
theorem dX3_leadPlayed_10 : decode cX3_leadPlayed 10 = .ok (.aload_n 0, 1) := by decide +kernel
theorem dX3_leadPlayed_11 : decode cX3_leadPlayed 11 = .ok (.aload_n 3, 1) := by decide +kernel
theorem dX3_leadPlayed_12 : decode cX3_leadPlayed 12 = .ok (.aload 5, 2) := by decide +kernel
theorem dX3_leadPlayed_14 : decode cX3_leadPlayed 14 = .ok (.invokevirtual 136, 3) := by decide +kernel
theorem dX3_leadPlayed_17 : decode cX3_leadPlayed 17 = .ok (.istore 6, 2) := by decide +kernel
theorem dX3_leadPlayed_19 : decode cX3_leadPlayed 19 = .ok (.iload 6, 2) := by decide +kernel
theorem dX3_leadPlayed_21 : decode cX3_leadPlayed 21 = .ok (.ldc 125, 2) := by decide +kernel
theorem dX3_leadPlayed_23 : decode cX3_leadPlayed 23 = .ok (.if_icmp .eq 29, 3) := by decide +kernel
theorem dX3_leadPlayed_26 : decode cX3_leadPlayed 26 = .ok (.aload_n 0, 1) := by decide +kernel
theorem dX3_leadPlayed_27 : decode cX3_leadPlayed 27 = .ok (.aload_n 3, 1) := by decide +kernel
theorem dX3_leadPlayed_28 : decode cX3_leadPlayed 28 = .ok (.iload 6, 2) := by decide +kernel
theorem dX3_leadPlayed_30 : decode cX3_leadPlayed 30 = .ok (.aload 5, 2) := by decide +kernel
theorem dX3_leadPlayed_32 : decode cX3_leadPlayed 32 = .ok (.invokevirtual 140, 3) := by decide +kernel
theorem dX3_leadPlayed_35 : decode cX3_leadPlayed 35 = .ok (.aload_n 0, 1) := by decide +kernel
theorem dX3_leadPlayed_36 : decode cX3_leadPlayed 36 = .ok (.aload_n 3, 1) := by decide +kernel
theorem dX3_leadPlayed_37 : decode cX3_leadPlayed 37 = .ok (.getfield 103, 3) := by decide +kernel
theorem dX3_leadPlayed_40 : decode cX3_leadPlayed 40 = .ok (.aload 5, 2) := by decide +kernel
theorem dX3_leadPlayed_42 : decode cX3_leadPlayed 42 = .ok (.invokevirtual 122, 3) := by decide +kernel
theorem dX3_leadPlayed_45 : decode cX3_leadPlayed 45 = .ok (.if_icmp .le 7, 3) := by decide +kernel
theorem dX3_leadPlayed_48 : decode cX3_leadPlayed 48 = .ok (.iconst 1, 1) := by decide +kernel
theorem dX3_leadPlayed_49 : decode cX3_leadPlayed 49 = .ok (.goto 4, 3) := by decide +kernel
theorem dX3_leadPlayed_52 : decode cX3_leadPlayed 52 = .ok (.iconst 0, 1) := by decide +kernel
theorem dX3_leadPlayed_53 : decode cX3_leadPlayed 53 = .ok (.istore 7, 2) := by decide +kernel
theorem dX3_leadPlayed_55 : decode cX3_leadPlayed 55 = .ok (.aload_n 0, 1) := by decide +kernel
theorem dX3_leadPlayed_56 : decode cX3_leadPlayed 56 = .ok (.aload_n 1, 1) := by decide +kernel
theorem dX3_leadPlayed_57 : decode cX3_leadPlayed 57 = .ok (.getfield 103, 3) := by decide +kernel
theorem dX3_leadPlayed_60 : decode cX3_leadPlayed 60 = .ok (.iload 7, 2) := by decide +kernel
theorem dX3_leadPlayed_62 : decode cX3_leadPlayed 62 = .ok (.ifCond .eq 10, 3) := by decide +kernel
theorem dX3_leadPlayed_65 : decode cX3_leadPlayed 65 = .ok (.aload_n 0, 1) := by decide +kernel
theorem dX3_leadPlayed_66 : decode cX3_leadPlayed 66 = .ok (.getfield 49, 3) := by decide +kernel
theorem dX3_leadPlayed_69 : decode cX3_leadPlayed 69 = .ok (.goto 5, 3) := by decide +kernel
theorem dX3_leadPlayed_72 : decode cX3_leadPlayed 72 = .ok (.aload 5, 2) := by decide +kernel
theorem dX3_leadPlayed_74 : decode cX3_leadPlayed 74 = .ok (.invokevirtual 122, 3) := by decide +kernel
theorem dX3_leadPlayed_77 : decode cX3_leadPlayed 77 = .ok (.ireturn, 1) := by decide +kernel
theorem dX3_heldCells_0 : decode cX3_heldCells 0 = .ok (.iconst 0, 1) := by decide +kernel
theorem dX3_heldCells_1 : decode cX3_heldCells 1 = .ok (.istore 5, 2) := by decide +kernel
theorem dX3_heldCells_3 : decode cX3_heldCells 3 = .ok (.iconst 0, 1) := by decide +kernel
theorem dX3_heldCells_4 : decode cX3_heldCells 4 = .ok (.istore 6, 2) := by decide +kernel
theorem dX3_heldCells_6 : decode cX3_heldCells 6 = .ok (.iload 6, 2) := by decide +kernel
theorem dX3_heldCells_8 : decode cX3_heldCells 8 = .ok (.bipush 48, 2) := by decide +kernel
theorem dX3_heldCells_10 : decode cX3_heldCells 10 = .ok (.if_icmp .ge 34, 3) := by decide +kernel
theorem dX3_heldCells_13 : decode cX3_heldCells 13 = .ok (.aload_n 0, 1) := by decide +kernel
theorem dX3_heldCells_14 : decode cX3_heldCells 14 = .ok (.iload_n 1, 1) := by decide +kernel
theorem dX3_heldCells_15 : decode cX3_heldCells 15 = .ok (.iload_n 2, 1) := by decide +kernel
theorem dX3_heldCells_16 : decode cX3_heldCells 16 = .ok (.iload 6, 2) := by decide +kernel
theorem dX3_heldCells_18 : decode cX3_heldCells 18 = .ok (.aload 4, 2) := by decide +kernel
theorem dX3_heldCells_20 : decode cX3_heldCells 20 = .ok (.invokevirtual 144, 3) := by decide +kernel
theorem dX3_heldCells_23 : decode cX3_heldCells 23 = .ok (.ifCond .eq 15, 3) := by decide +kernel
theorem dX3_heldCells_26 : decode cX3_heldCells 26 = .ok (.iload 5, 2) := by decide +kernel
theorem dX3_heldCells_28 : decode cX3_heldCells 28 = .ok (.iload_n 3, 1) := by decide +kernel
theorem dX3_heldCells_29 : decode cX3_heldCells 29 = .ok (.if_icmp .ne 6, 3) := by decide +kernel
theorem dX3_heldCells_32 : decode cX3_heldCells 32 = .ok (.iload 6, 2) := by decide +kernel
theorem dX3_heldCells_34 : decode cX3_heldCells 34 = .ok (.ireturn, 1) := by decide +kernel
theorem dX3_heldCells_35 : decode cX3_heldCells 35 = .ok (.iinc 5 1, 3) := by decide +kernel
theorem dX3_heldCells_38 : decode cX3_heldCells 38 = .ok (.iinc 6 1, 3) := by decide +kernel
theorem dX3_heldCells_41 : decode cX3_heldCells 41 = .ok (.goto (-35), 3) := by decide +kernel
theorem dX3_heldCells_44 : decode cX3_heldCells 44 = .ok (.iload_n 3, 1) := by decide +kernel
theorem dX3_heldCells_45 : decode cX3_heldCells 45 = .ok (.iconst (-1), 1) := by decide +kernel
theorem dX3_heldCells_46 : decode cX3_heldCells 46 = .ok (.if_icmp .ne 8, 3) := by decide +kernel
theorem dX3_heldCells_49 : decode cX3_heldCells 49 = .ok (.iload 5, 2) := by decide +kernel
theorem dX3_heldCells_51 : decode cX3_heldCells 51 = .ok (.goto 5, 3) := by decide +kernel
theorem dX3_heldCells_54 : decode cX3_heldCells 54 = .ok (.ldc 125, 2) := by decide +kernel
theorem dX3_heldCells_56 : decode cX3_heldCells 56 = .ok (.ireturn, 1) := by decide +kernel
theorem dX3_isHeld_0 : decode cX3_isHeld 0 = .ok (.iconst 0, 1) := by decide +kernel
theorem dX3_isHeld_1 : decode cX3_isHeld 1 = .ok (.istore 5, 2) := by decide +kernel
theorem dX3_isHeld_3 : decode cX3_isHeld 3 = .ok (.iload 5, 2) := by decide +kernel
theorem dX3_isHeld_5 : decode cX3_isHeld 5 = .ok (.aload_n 0, 1) := by decide +kernel
theorem dX3_isHeld_6 : decode cX3_isHeld 6 = .ok (.getfield 38, 3) := by decide +kernel
theorem dX3_isHeld_9 : decode cX3_isHeld 9 = .ok (.if_icmp .ge 59, 3) := by decide +kernel
theorem dX3_isHeld_12 : decode cX3_isHeld 12 = .ok (.aload_n 0, 1) := by decide +kernel
theorem dX3_isHeld_13 : decode cX3_isHeld 13 = .ok (.getfield 34, 3) := by decide +kernel
theorem dX3_isHeld_16 : decode cX3_isHeld 16 = .ok (.iload 5, 2) := by decide +kernel
theorem dX3_isHeld_18 : decode cX3_isHeld 18 = .ok (.aaload, 1) := by decide +kernel
theorem dX3_isHeld_19 : decode cX3_isHeld 19 = .ok (.astore 6, 2) := by decide +kernel
theorem dX3_isHeld_21 : decode cX3_isHeld 21 = .ok (.aload 6, 2) := by decide +kernel
theorem dX3_isHeld_23 : decode cX3_isHeld 23 = .ok (.getfield 103, 3) := by decide +kernel
theorem dX3_isHeld_26 : decode cX3_isHeld 26 = .ok (.iload_n 1, 1) := by decide +kernel
theorem dX3_isHeld_27 : decode cX3_isHeld 27 = .ok (.if_icmp .eq 35, 3) := by decide +kernel
theorem dX3_isHeld_30 : decode cX3_isHeld 30 = .ok (.aload_n 0, 1) := by decide +kernel
theorem dX3_isHeld_31 : decode cX3_isHeld 31 = .ok (.aload 6, 2) := by decide +kernel
theorem dX3_isHeld_33 : decode cX3_isHeld 33 = .ok (.iload_n 3, 1) := by decide +kernel
theorem dX3_isHeld_34 : decode cX3_isHeld 34 = .ok (.aload 4, 2) := by decide +kernel
theorem dX3_isHeld_36 : decode cX3_isHeld 36 = .ok (.invokevirtual 106, 3) := by decide +kernel
theorem dX3_isHeld_39 : decode cX3_isHeld 39 = .ok (.ifCond .eq 23, 3) := by decide +kernel
theorem dX3_isHeld_42 : decode cX3_isHeld 42 = .ok (.aload_n 0, 1) := by decide +kernel
theorem dX3_isHeld_43 : decode cX3_isHeld 43 = .ok (.iload_n 1, 1) := by decide +kernel
theorem dX3_isHeld_44 : decode cX3_isHeld 44 = .ok (.aload_n 0, 1) := by decide +kernel
theorem dX3_isHeld_45 : decode cX3_isHeld 45 = .ok (.aload 6, 2) := by decide +kernel
theorem dX3_isHeld_47 : decode cX3_isHeld 47 = .ok (.iload_n 3, 1) := by decide +kernel
theorem dX3_isHeld_48 : decode cX3_isHeld 48 = .ok (.aload 4, 2) := by decide +kernel
theorem dX3_isHeld_50 : decode cX3_isHeld 50 = .ok (.invokevirtual 118, 3) := by decide +kernel
theorem dX3_isHeld_53 : decode cX3_isHeld 53 = .ok (.invokevirtual 83, 3) := by decide +kernel
theorem dX3_isHeld_56 : decode cX3_isHeld 56 = .ok (.iload_n 2, 1) := by decide +kernel
theorem dX3_isHeld_57 : decode cX3_isHeld 57 = .ok (.if_icmp .ge 5, 3) := by decide +kernel
theorem dX3_isHeld_60 : decode cX3_isHeld 60 = .ok (.iconst 1, 1) := by decide +kernel
theorem dX3_isHeld_61 : decode cX3_isHeld 61 = .ok (.ireturn, 1) := by decide +kernel
theorem dX3_isHeld_62 : decode cX3_isHeld 62 = .ok (.iinc 5 1, 3) := by decide +kernel
theorem dX3_isHeld_65 : decode cX3_isHeld 65 = .ok (.goto (-62), 3) := by decide +kernel
theorem dX3_isHeld_68 : decode cX3_isHeld 68 = .ok (.iconst 0, 1) := by decide +kernel
theorem dX3_isHeld_69 : decode cX3_isHeld 69 = .ok (.ireturn, 1) := by decide +kernel
theorem dX3_waysTo_0 : decode cX3_waysTo 0 = .ok (.iconst 0, 1) := by decide +kernel
theorem dX3_waysTo_1 : decode cX3_waysTo 1 = .ok (.istore 5, 2) := by decide +kernel
theorem dX3_waysTo_3 : decode cX3_waysTo 3 = .ok (.iconst 0, 1) := by decide +kernel
theorem dX3_waysTo_4 : decode cX3_waysTo 4 = .ok (.istore 6, 2) := by decide +kernel
theorem dX3_waysTo_6 : decode cX3_waysTo 6 = .ok (.iload 6, 2) := by decide +kernel
theorem dX3_waysTo_8 : decode cX3_waysTo 8 = .ok (.aload_n 0, 1) := by decide +kernel
theorem dX3_waysTo_9 : decode cX3_waysTo 9 = .ok (.getfield 38, 3) := by decide +kernel
theorem dX3_waysTo_12 : decode cX3_waysTo 12 = .ok (.if_icmp .ge 82, 3) := by decide +kernel
theorem dX3_waysTo_15 : decode cX3_waysTo 15 = .ok (.iconst 0, 1) := by decide +kernel
theorem dX3_waysTo_16 : decode cX3_waysTo 16 = .ok (.istore 7, 2) := by decide +kernel
theorem dX3_waysTo_18 : decode cX3_waysTo 18 = .ok (.iload 7, 2) := by decide +kernel
theorem dX3_waysTo_20 : decode cX3_waysTo 20 = .ok (.bipush 48, 2) := by decide +kernel
theorem dX3_waysTo_22 : decode cX3_waysTo 22 = .ok (.if_icmp .ge 66, 3) := by decide +kernel
theorem dX3_waysTo_25 : decode cX3_waysTo 25 = .ok (.aload_n 0, 1) := by decide +kernel
theorem dX3_waysTo_26 : decode cX3_waysTo 26 = .ok (.aload_n 0, 1) := by decide +kernel
theorem dX3_waysTo_27 : decode cX3_waysTo 27 = .ok (.getfield 34, 3) := by decide +kernel
theorem dX3_waysTo_30 : decode cX3_waysTo 30 = .ok (.iload 6, 2) := by decide +kernel
theorem dX3_waysTo_32 : decode cX3_waysTo 32 = .ok (.aaload, 1) := by decide +kernel
theorem dX3_waysTo_33 : decode cX3_waysTo 33 = .ok (.iload 7, 2) := by decide +kernel
theorem dX3_waysTo_35 : decode cX3_waysTo 35 = .ok (.aload 4, 2) := by decide +kernel
theorem dX3_waysTo_37 : decode cX3_waysTo 37 = .ok (.invokevirtual 106, 3) := by decide +kernel
theorem dX3_waysTo_40 : decode cX3_waysTo 40 = .ok (.ifCond .eq 42, 3) := by decide +kernel
theorem dX3_waysTo_43 : decode cX3_waysTo 43 = .ok (.aload_n 0, 1) := by decide +kernel
theorem dX3_waysTo_44 : decode cX3_waysTo 44 = .ok (.aload_n 0, 1) := by decide +kernel
theorem dX3_waysTo_45 : decode cX3_waysTo 45 = .ok (.getfield 34, 3) := by decide +kernel
theorem dX3_waysTo_48 : decode cX3_waysTo 48 = .ok (.iload 6, 2) := by decide +kernel
theorem dX3_waysTo_50 : decode cX3_waysTo 50 = .ok (.aaload, 1) := by decide +kernel
theorem dX3_waysTo_51 : decode cX3_waysTo 51 = .ok (.iload 7, 2) := by decide +kernel
theorem dX3_waysTo_53 : decode cX3_waysTo 53 = .ok (.aload 4, 2) := by decide +kernel
theorem dX3_waysTo_55 : decode cX3_waysTo 55 = .ok (.invokevirtual 118, 3) := by decide +kernel
theorem dX3_waysTo_58 : decode cX3_waysTo 58 = .ok (.aload_n 1, 1) := by decide +kernel
theorem dX3_waysTo_59 : decode cX3_waysTo 59 = .ok (.iload_n 2, 1) := by decide +kernel
theorem dX3_waysTo_60 : decode cX3_waysTo 60 = .ok (.invokevirtual 148, 3) := by decide +kernel
theorem dX3_waysTo_63 : decode cX3_waysTo 63 = .ok (.ifCond .eq 19, 3) := by decide +kernel
theorem dX3_waysTo_66 : decode cX3_waysTo 66 = .ok (.iload_n 3, 1) := by decide +kernel
theorem dX3_waysTo_67 : decode cX3_waysTo 67 = .ok (.ifCond .eq 12, 3) := by decide +kernel
theorem dX3_waysTo_70 : decode cX3_waysTo 70 = .ok (.bipush 48, 2) := by decide +kernel
theorem dX3_waysTo_72 : decode cX3_waysTo 72 = .ok (.iload 6, 2) := by decide +kernel
theorem dX3_waysTo_74 : decode cX3_waysTo 74 = .ok (.imul, 1) := by decide +kernel
theorem dX3_waysTo_75 : decode cX3_waysTo 75 = .ok (.iload 7, 2) := by decide +kernel
theorem dX3_waysTo_77 : decode cX3_waysTo 77 = .ok (.iadd, 1) := by decide +kernel
theorem dX3_waysTo_78 : decode cX3_waysTo 78 = .ok (.ireturn, 1) := by decide +kernel
theorem dX3_waysTo_79 : decode cX3_waysTo 79 = .ok (.iinc 5 1, 3) := by decide +kernel
theorem dX3_waysTo_82 : decode cX3_waysTo 82 = .ok (.iinc 7 1, 3) := by decide +kernel
theorem dX3_waysTo_85 : decode cX3_waysTo 85 = .ok (.goto (-67), 3) := by decide +kernel
theorem dX3_waysTo_88 : decode cX3_waysTo 88 = .ok (.iinc 6 1, 3) := by decide +kernel
theorem dX3_waysTo_91 : decode cX3_waysTo 91 = .ok (.goto (-85), 3) := by decide +kernel
theorem dX3_waysTo_94 : decode cX3_waysTo 94 = .ok (.iload_n 3, 1) := by decide +kernel
theorem dX3_waysTo_95 : decode cX3_waysTo 95 = .ok (.ifCond .eq 8, 3) := by decide +kernel
theorem dX3_waysTo_98 : decode cX3_waysTo 98 = .ok (.ldc 125, 2) := by decide +kernel
theorem dX3_waysTo_100 : decode cX3_waysTo 100 = .ok (.goto 5, 3) := by decide +kernel
theorem dX3_waysTo_103 : decode cX3_waysTo 103 = .ok (.iload 5, 2) := by decide +kernel
theorem dX3_waysTo_105 : decode cX3_waysTo 105 = .ok (.ireturn, 1) := by decide +kernel
theorem dX0_init_0 : decode cX0_init 0 = .ok (.aload_n 0, 1) := by decide +kernel
theorem dX0_init_1 : decode cX0_init 1 = .ok (.iload_n 1, 1) := by decide +kernel
theorem dX0_init_2 : decode cX0_init 2 = .ok (.iload_n 2, 1) := by decide +kernel
theorem dX0_init_3 : decode cX0_init 3 = .ok (.iload_n 3, 1) := by decide +kernel
theorem dX0_init_4 : decode cX0_init 4 = .ok (.iload 4, 2) := by decide +kernel
theorem dX0_init_6 : decode cX0_init 6 = .ok (.invokespecial 1, 3) := by decide +kernel
theorem dX0_init_9 : decode cX0_init 9 = .ok (.return_, 1) := by decide +kernel
theorem dX0_sort_0 : decode cX0_sort 0 = .ok (.iconst 1, 1) := by decide +kernel
theorem dX0_sort_1 : decode cX0_sort 1 = .ok (.ireturn, 1) := by decide +kernel
theorem dX0_size_0 : decode cX0_size 0 = .ok (.aload_n 1, 1) := by decide +kernel
theorem dX0_size_1 : decode cX0_size 1 = .ok (.bipush 11, 2) := by decide +kernel
theorem dX0_size_3 : decode cX0_size 3 = .ok (.invokevirtual 9, 3) := by decide +kernel
theorem dX0_size_6 : decode cX0_size 6 = .ok (.aload_n 0, 1) := by decide +kernel
theorem dX0_size_7 : decode cX0_size 7 = .ok (.aload_n 1, 1) := by decide +kernel
theorem dX0_size_8 : decode cX0_size 8 = .ok (.invokespecial 15, 3) := by decide +kernel
theorem dX0_size_11 : decode cX0_size 11 = .ok (.istore_n 2, 1) := by decide +kernel
theorem dX0_size_12 : decode cX0_size 12 = .ok (.iload_n 2, 1) := by decide +kernel
theorem dX0_size_13 : decode cX0_size 13 = .ok (.aload_n 0, 1) := by decide +kernel
theorem dX0_size_14 : decode cX0_size 14 = .ok (.aload_n 1, 1) := by decide +kernel
theorem dX0_size_15 : decode cX0_size 15 = .ok (.invokevirtual 19, 3) := by decide +kernel
theorem dX0_size_18 : decode cX0_size 18 = .ok (.iadd, 1) := by decide +kernel
theorem dX0_size_19 : decode cX0_size 19 = .ok (.ireturn, 1) := by decide +kernel
theorem dX0_mark_0 : decode cX0_mark 0 = .ok (.aload_n 1, 1) := by decide +kernel
theorem dX0_mark_1 : decode cX0_mark 1 = .ok (.bipush 21, 2) := by decide +kernel
theorem dX0_mark_3 : decode cX0_mark 3 = .ok (.invokevirtual 9, 3) := by decide +kernel
theorem dX0_mark_6 : decode cX0_mark 6 = .ok (.aload_n 0, 1) := by decide +kernel
theorem dX0_mark_7 : decode cX0_mark 7 = .ok (.aload_n 1, 1) := by decide +kernel
theorem dX0_mark_8 : decode cX0_mark 8 = .ok (.invokespecial 22, 3) := by decide +kernel
theorem dX0_mark_11 : decode cX0_mark 11 = .ok (.aload_n 0, 1) := by decide +kernel
theorem dX0_mark_12 : decode cX0_mark 12 = .ok (.getfield 23, 3) := by decide +kernel
theorem dX0_mark_15 : decode cX0_mark 15 = .ok (.iadd, 1) := by decide +kernel
theorem dX0_mark_16 : decode cX0_mark 16 = .ok (.ireturn, 1) := by decide +kernel
theorem dX1_init_0 : decode cX1_init 0 = .ok (.aload_n 0, 1) := by decide +kernel
theorem dX1_init_1 : decode cX1_init 1 = .ok (.iload_n 1, 1) := by decide +kernel
theorem dX1_init_2 : decode cX1_init 2 = .ok (.iload_n 2, 1) := by decide +kernel
theorem dX1_init_3 : decode cX1_init 3 = .ok (.iload_n 3, 1) := by decide +kernel
theorem dX1_init_4 : decode cX1_init 4 = .ok (.iload 4, 2) := by decide +kernel
theorem dX1_init_6 : decode cX1_init 6 = .ok (.invokespecial 1, 3) := by decide +kernel
theorem dX1_init_9 : decode cX1_init 9 = .ok (.return_, 1) := by decide +kernel
theorem dX1_sort_0 : decode cX1_sort 0 = .ok (.iconst 4, 1) := by decide +kernel
theorem dX1_sort_1 : decode cX1_sort 1 = .ok (.ireturn, 1) := by decide +kernel
theorem dX1_size_0 : decode cX1_size 0 = .ok (.aload_n 1, 1) := by decide +kernel
theorem dX1_size_1 : decode cX1_size 1 = .ok (.bipush 13, 2) := by decide +kernel
theorem dX1_size_3 : decode cX1_size 3 = .ok (.invokevirtual 9, 3) := by decide +kernel
theorem dX1_size_6 : decode cX1_size 6 = .ok (.aload_n 0, 1) := by decide +kernel
theorem dX1_size_7 : decode cX1_size 7 = .ok (.aload_n 1, 1) := by decide +kernel
theorem dX1_size_8 : decode cX1_size 8 = .ok (.invokespecial 15, 3) := by decide +kernel
theorem dX1_size_11 : decode cX1_size 11 = .ok (.bipush 100, 2) := by decide +kernel
theorem dX1_size_13 : decode cX1_size 13 = .ok (.isub, 1) := by decide +kernel
theorem dX1_size_14 : decode cX1_size 14 = .ok (.ireturn, 1) := by decide +kernel
theorem dX1_mark_0 : decode cX1_mark 0 = .ok (.aload_n 1, 1) := by decide +kernel
theorem dX1_mark_1 : decode cX1_mark 1 = .ok (.bipush 23, 2) := by decide +kernel
theorem dX1_mark_3 : decode cX1_mark 3 = .ok (.invokevirtual 9, 3) := by decide +kernel
theorem dX1_mark_6 : decode cX1_mark 6 = .ok (.aload_n 0, 1) := by decide +kernel
theorem dX1_mark_7 : decode cX1_mark 7 = .ok (.aload_n 1, 1) := by decide +kernel
theorem dX1_mark_8 : decode cX1_mark 8 = .ok (.invokespecial 19, 3) := by decide +kernel
theorem dX1_mark_11 : decode cX1_mark 11 = .ok (.istore_n 2, 1) := by decide +kernel
theorem dX1_mark_12 : decode cX1_mark 12 = .ok (.iload_n 2, 1) := by decide +kernel
theorem dX1_mark_13 : decode cX1_mark 13 = .ok (.aload_n 0, 1) := by decide +kernel
theorem dX1_mark_14 : decode cX1_mark 14 = .ok (.aload_n 1, 1) := by decide +kernel
theorem dX1_mark_15 : decode cX1_mark 15 = .ok (.invokevirtual 22, 3) := by decide +kernel
theorem dX1_mark_18 : decode cX1_mark 18 = .ok (.isub, 1) := by decide +kernel
theorem dX1_mark_19 : decode cX1_mark 19 = .ok (.ireturn, 1) := by decide +kernel
theorem dX2_init_0 : decode cX2_init 0 = .ok (.aload_n 0, 1) := by decide +kernel
theorem dX2_init_1 : decode cX2_init 1 = .ok (.iload_n 1, 1) := by decide +kernel
theorem dX2_init_2 : decode cX2_init 2 = .ok (.iload_n 2, 1) := by decide +kernel
theorem dX2_init_3 : decode cX2_init 3 = .ok (.iload_n 3, 1) := by decide +kernel
theorem dX2_init_4 : decode cX2_init 4 = .ok (.iload 4, 2) := by decide +kernel
theorem dX2_init_6 : decode cX2_init 6 = .ok (.invokespecial 1, 3) := by decide +kernel
theorem dX2_init_9 : decode cX2_init 9 = .ok (.return_, 1) := by decide +kernel
theorem dX2_sort_0 : decode cX2_sort 0 = .ok (.iconst 2, 1) := by decide +kernel
theorem dX2_sort_1 : decode cX2_sort 1 = .ok (.ireturn, 1) := by decide +kernel
theorem dX2_reach_0 : decode cX2_reach 0 = .ok (.iconst 2, 1) := by decide +kernel
theorem dX2_reach_1 : decode cX2_reach 1 = .ok (.aload_n 0, 1) := by decide +kernel
theorem dX2_reach_2 : decode cX2_reach 2 = .ok (.getfield 9, 3) := by decide +kernel
theorem dX2_reach_5 : decode cX2_reach 5 = .ok (.imul, 1) := by decide +kernel
theorem dX2_reach_6 : decode cX2_reach 6 = .ok (.ireturn, 1) := by decide +kernel
theorem dX2_size_0 : decode cX2_size 0 = .ok (.aload_n 1, 1) := by decide +kernel
theorem dX2_size_1 : decode cX2_size 1 = .ok (.bipush 12, 2) := by decide +kernel
theorem dX2_size_3 : decode cX2_size 3 = .ok (.invokevirtual 13, 3) := by decide +kernel
theorem dX2_size_6 : decode cX2_size 6 = .ok (.iconst 0, 1) := by decide +kernel
theorem dX2_size_7 : decode cX2_size 7 = .ok (.aload_n 0, 1) := by decide +kernel
theorem dX2_size_8 : decode cX2_size 8 = .ok (.aload_n 1, 1) := by decide +kernel
theorem dX2_size_9 : decode cX2_size 9 = .ok (.invokespecial 19, 3) := by decide +kernel
theorem dX2_size_12 : decode cX2_size 12 = .ok (.isub, 1) := by decide +kernel
theorem dX2_size_13 : decode cX2_size 13 = .ok (.ireturn, 1) := by decide +kernel
theorem dX2_mark_0 : decode cX2_mark 0 = .ok (.aload_n 1, 1) := by decide +kernel
theorem dX2_mark_1 : decode cX2_mark 1 = .ok (.bipush 24, 2) := by decide +kernel
theorem dX2_mark_3 : decode cX2_mark 3 = .ok (.invokevirtual 13, 3) := by decide +kernel
theorem dX2_mark_6 : decode cX2_mark 6 = .ok (.iconst 2, 1) := by decide +kernel
theorem dX2_mark_7 : decode cX2_mark 7 = .ok (.aload_n 0, 1) := by decide +kernel
theorem dX2_mark_8 : decode cX2_mark 8 = .ok (.aload_n 1, 1) := by decide +kernel
theorem dX2_mark_9 : decode cX2_mark 9 = .ok (.invokespecial 23, 3) := by decide +kernel
theorem dX2_mark_12 : decode cX2_mark 12 = .ok (.imul, 1) := by decide +kernel
theorem dX2_mark_13 : decode cX2_mark 13 = .ok (.ireturn, 1) := by decide +kernel
theorem dX5_init_0 : decode cX5_init 0 = .ok (.aload_n 0, 1) := by decide +kernel
theorem dX5_init_1 : decode cX5_init 1 = .ok (.iload_n 1, 1) := by decide +kernel
theorem dX5_init_2 : decode cX5_init 2 = .ok (.iload_n 2, 1) := by decide +kernel
theorem dX5_init_3 : decode cX5_init 3 = .ok (.iload_n 3, 1) := by decide +kernel
theorem dX5_init_4 : decode cX5_init 4 = .ok (.iload 4, 2) := by decide +kernel
theorem dX5_init_6 : decode cX5_init 6 = .ok (.invokespecial 1, 3) := by decide +kernel
theorem dX5_init_9 : decode cX5_init 9 = .ok (.return_, 1) := by decide +kernel
theorem dX5_sort_0 : decode cX5_sort 0 = .ok (.iconst 5, 1) := by decide +kernel
theorem dX5_sort_1 : decode cX5_sort 1 = .ok (.ireturn, 1) := by decide +kernel
theorem dX5_size_0 : decode cX5_size 0 = .ok (.aload_n 1, 1) := by decide +kernel
theorem dX5_size_1 : decode cX5_size 1 = .ok (.bipush 14, 2) := by decide +kernel
theorem dX5_size_3 : decode cX5_size 3 = .ok (.invokevirtual 9, 3) := by decide +kernel
theorem dX5_size_6 : decode cX5_size 6 = .ok (.iconst 2, 1) := by decide +kernel
theorem dX5_size_7 : decode cX5_size 7 = .ok (.aload_n 0, 1) := by decide +kernel
theorem dX5_size_8 : decode cX5_size 8 = .ok (.aload_n 1, 1) := by decide +kernel
theorem dX5_size_9 : decode cX5_size 9 = .ok (.invokespecial 15, 3) := by decide +kernel
theorem dX5_size_12 : decode cX5_size 12 = .ok (.imul, 1) := by decide +kernel
theorem dX5_size_13 : decode cX5_size 13 = .ok (.ireturn, 1) := by decide +kernel
theorem dX6_init_0 : decode cX6_init 0 = .ok (.aload_n 0, 1) := by decide +kernel
theorem dX6_init_1 : decode cX6_init 1 = .ok (.invokespecial 1, 3) := by decide +kernel
theorem dX6_init_4 : decode cX6_init 4 = .ok (.aload_n 0, 1) := by decide +kernel
theorem dX6_init_5 : decode cX6_init 5 = .ok (.iload_n 1, 1) := by decide +kernel
theorem dX6_init_6 : decode cX6_init 6 = .ok (.putfield 7, 3) := by decide +kernel
theorem dX6_init_9 : decode cX6_init 9 = .ok (.aload_n 0, 1) := by decide +kernel
theorem dX6_init_10 : decode cX6_init 10 = .ok (.iload_n 2, 1) := by decide +kernel
theorem dX6_init_11 : decode cX6_init 11 = .ok (.putfield 13, 3) := by decide +kernel
theorem dX6_init_14 : decode cX6_init 14 = .ok (.aload_n 0, 1) := by decide +kernel
theorem dX6_init_15 : decode cX6_init 15 = .ok (.iload_n 3, 1) := by decide +kernel
theorem dX6_init_16 : decode cX6_init 16 = .ok (.putfield 16, 3) := by decide +kernel
theorem dX6_init_19 : decode cX6_init 19 = .ok (.aload_n 0, 1) := by decide +kernel
theorem dX6_init_20 : decode cX6_init 20 = .ok (.iload 4, 2) := by decide +kernel
theorem dX6_init_22 : decode cX6_init 22 = .ok (.putfield 19, 3) := by decide +kernel
theorem dX6_init_25 : decode cX6_init 25 = .ok (.return_, 1) := by decide +kernel
theorem dX6_reach_0 : decode cX6_reach 0 = .ok (.aload_n 0, 1) := by decide +kernel
theorem dX6_reach_1 : decode cX6_reach 1 = .ok (.getfield 19, 3) := by decide +kernel
theorem dX6_reach_4 : decode cX6_reach 4 = .ok (.ireturn, 1) := by decide +kernel
theorem dX6_size_0 : decode cX6_size 0 = .ok (.aload_n 1, 1) := by decide +kernel
theorem dX6_size_1 : decode cX6_size 1 = .ok (.bipush 10, 2) := by decide +kernel
theorem dX6_size_3 : decode cX6_size 3 = .ok (.invokevirtual 22, 3) := by decide +kernel
theorem dX6_size_6 : decode cX6_size 6 = .ok (.aload_n 0, 1) := by decide +kernel
theorem dX6_size_7 : decode cX6_size 7 = .ok (.getfield 19, 3) := by decide +kernel
theorem dX6_size_10 : decode cX6_size 10 = .ok (.ireturn, 1) := by decide +kernel
theorem dX6_mark_0 : decode cX6_mark 0 = .ok (.aload_n 1, 1) := by decide +kernel
theorem dX6_mark_1 : decode cX6_mark 1 = .ok (.bipush 20, 2) := by decide +kernel
theorem dX6_mark_3 : decode cX6_mark 3 = .ok (.invokevirtual 22, 3) := by decide +kernel
theorem dX6_mark_6 : decode cX6_mark 6 = .ok (.aload_n 0, 1) := by decide +kernel
theorem dX6_mark_7 : decode cX6_mark 7 = .ok (.getfield 7, 3) := by decide +kernel
theorem dX6_mark_10 : decode cX6_mark 10 = .ok (.ireturn, 1) := by decide +kernel
theorem dX7_init_0 : decode cX7_init 0 = .ok (.aload_n 0, 1) := by decide +kernel
theorem dX7_init_1 : decode cX7_init 1 = .ok (.invokespecial 3, 3) := by decide +kernel
theorem dX7_init_4 : decode cX7_init 4 = .ok (.aload_n 0, 1) := by decide +kernel
theorem dX7_init_5 : decode cX7_init 5 = .ok (.bipush 40, 2) := by decide +kernel
theorem dX7_init_7 : decode cX7_init 7 = .ok (.newarray .int, 2) := by decide +kernel
theorem dX7_init_9 : decode cX7_init 9 = .ok (.putfield 9, 3) := by decide +kernel
theorem dX7_init_12 : decode cX7_init 12 = .ok (.aload_n 0, 1) := by decide +kernel
theorem dX7_init_13 : decode cX7_init 13 = .ok (.iconst (-1), 1) := by decide +kernel
theorem dX7_init_14 : decode cX7_init 14 = .ok (.putfield 15, 3) := by decide +kernel
theorem dX7_init_17 : decode cX7_init 17 = .ok (.aload_n 0, 1) := by decide +kernel
theorem dX7_init_18 : decode cX7_init 18 = .ok (.iconst 0, 1) := by decide +kernel
theorem dX7_init_19 : decode cX7_init 19 = .ok (.putfield 19, 3) := by decide +kernel
theorem dX7_init_22 : decode cX7_init 22 = .ok (.return_, 1) := by decide +kernel
theorem dX7_isMissing_0 : decode cX7_isMissing 0 = .ok (.aload_n 0, 1) := by decide +kernel
theorem dX7_isMissing_1 : decode cX7_isMissing 1 = .ok (.getfield 15, 3) := by decide +kernel
theorem dX7_isMissing_4 : decode cX7_isMissing 4 = .ok (.iconst (-1), 1) := by decide +kernel
theorem dX7_isMissing_5 : decode cX7_isMissing 5 = .ok (.if_icmp .ne 7, 3) := by decide +kernel
theorem dX7_isMissing_8 : decode cX7_isMissing 8 = .ok (.iconst 1, 1) := by decide +kernel
theorem dX7_isMissing_9 : decode cX7_isMissing 9 = .ok (.goto 4, 3) := by decide +kernel
theorem dX7_isMissing_12 : decode cX7_isMissing 12 = .ok (.iconst 0, 1) := by decide +kernel
theorem dX7_isMissing_13 : decode cX7_isMissing 13 = .ok (.ireturn, 1) := by decide +kernel
theorem dX7_begin_0 : decode cX7_begin 0 = .ok (.aload_n 0, 1) := by decide +kernel
theorem dX7_begin_1 : decode cX7_begin 1 = .ok (.iload_n 1, 1) := by decide +kernel
theorem dX7_begin_2 : decode cX7_begin 2 = .ok (.putfield 15, 3) := by decide +kernel
theorem dX7_begin_5 : decode cX7_begin 5 = .ok (.aload_n 0, 1) := by decide +kernel
theorem dX7_begin_6 : decode cX7_begin 6 = .ok (.iconst 0, 1) := by decide +kernel
theorem dX7_begin_7 : decode cX7_begin 7 = .ok (.iload_n 2, 1) := by decide +kernel
theorem dX7_begin_8 : decode cX7_begin 8 = .ok (.bipush 40, 2) := by decide +kernel
theorem dX7_begin_10 : decode cX7_begin 10 = .ok (.invokestatic 22, 3) := by decide +kernel
theorem dX7_begin_13 : decode cX7_begin 13 = .ok (.invokestatic 28, 3) := by decide +kernel
theorem dX7_begin_16 : decode cX7_begin 16 = .ok (.putfield 19, 3) := by decide +kernel
theorem dX7_begin_19 : decode cX7_begin 19 = .ok (.iconst 0, 1) := by decide +kernel
theorem dX7_begin_20 : decode cX7_begin 20 = .ok (.istore_n 3, 1) := by decide +kernel
theorem dX7_begin_21 : decode cX7_begin 21 = .ok (.iload_n 3, 1) := by decide +kernel
theorem dX7_begin_22 : decode cX7_begin 22 = .ok (.aload_n 0, 1) := by decide +kernel
theorem dX7_begin_23 : decode cX7_begin 23 = .ok (.getfield 19, 3) := by decide +kernel
theorem dX7_begin_26 : decode cX7_begin 26 = .ok (.if_icmp .ge 16, 3) := by decide +kernel
theorem dX7_begin_29 : decode cX7_begin 29 = .ok (.aload_n 0, 1) := by decide +kernel
theorem dX7_begin_30 : decode cX7_begin 30 = .ok (.getfield 9, 3) := by decide +kernel
theorem dX7_begin_33 : decode cX7_begin 33 = .ok (.iload_n 3, 1) := by decide +kernel
theorem dX7_begin_34 : decode cX7_begin 34 = .ok (.iconst 0, 1) := by decide +kernel
theorem dX7_begin_35 : decode cX7_begin 35 = .ok (.iastore, 1) := by decide +kernel
theorem dX7_begin_36 : decode cX7_begin 36 = .ok (.iinc 3 1, 3) := by decide +kernel
theorem dX7_begin_39 : decode cX7_begin 39 = .ok (.goto (-18), 3) := by decide +kernel
theorem dX7_begin_42 : decode cX7_begin 42 = .ok (.return_, 1) := by decide +kernel
theorem dX7_hasPlaces_0 : decode cX7_hasPlaces 0 = .ok (.iload_n 1, 1) := by decide +kernel
theorem dX7_hasPlaces_1 : decode cX7_hasPlaces 1 = .ok (.ifCond .lt 21, 3) := by decide +kernel
theorem dX7_hasPlaces_4 : decode cX7_hasPlaces 4 = .ok (.iload_n 2, 1) := by decide +kernel
theorem dX7_hasPlaces_5 : decode cX7_hasPlaces 5 = .ok (.ifCond .lt 17, 3) := by decide +kernel
theorem dX7_hasPlaces_8 : decode cX7_hasPlaces 8 = .ok (.iload_n 1, 1) := by decide +kernel
theorem dX7_hasPlaces_9 : decode cX7_hasPlaces 9 = .ok (.aload_n 0, 1) := by decide +kernel
theorem dX7_hasPlaces_10 : decode cX7_hasPlaces 10 = .ok (.getfield 19, 3) := by decide +kernel
theorem dX7_hasPlaces_13 : decode cX7_hasPlaces 13 = .ok (.iload_n 2, 1) := by decide +kernel
theorem dX7_hasPlaces_14 : decode cX7_hasPlaces 14 = .ok (.isub, 1) := by decide +kernel
theorem dX7_hasPlaces_15 : decode cX7_hasPlaces 15 = .ok (.if_icmp .gt 7, 3) := by decide +kernel
theorem dX7_hasPlaces_18 : decode cX7_hasPlaces 18 = .ok (.iconst 1, 1) := by decide +kernel
theorem dX7_hasPlaces_19 : decode cX7_hasPlaces 19 = .ok (.goto 4, 3) := by decide +kernel
theorem dX7_hasPlaces_22 : decode cX7_hasPlaces 22 = .ok (.iconst 0, 1) := by decide +kernel
theorem dX7_hasPlaces_23 : decode cX7_hasPlaces 23 = .ok (.ireturn, 1) := by decide +kernel
theorem dX7_keep_0 : decode cX7_keep 0 = .ok (.aload_n 0, 1) := by decide +kernel
theorem dX7_keep_1 : decode cX7_keep 1 = .ok (.getfield 9, 3) := by decide +kernel
theorem dX7_keep_4 : decode cX7_keep 4 = .ok (.iload_n 1, 1) := by decide +kernel
theorem dX7_keep_5 : decode cX7_keep 5 = .ok (.aload_n 0, 1) := by decide +kernel
theorem dX7_keep_6 : decode cX7_keep 6 = .ok (.getfield 15, 3) := by decide +kernel
theorem dX7_keep_9 : decode cX7_keep 9 = .ok (.ifCond .ne 8, 3) := by decide +kernel
theorem dX7_keep_12 : decode cX7_keep 12 = .ok (.iload_n 2, 1) := by decide +kernel
theorem dX7_keep_13 : decode cX7_keep 13 = .ok (.i2b, 1) := by decide +kernel
theorem dX7_keep_14 : decode cX7_keep 14 = .ok (.goto 17, 3) := by decide +kernel
theorem dX7_keep_17 : decode cX7_keep 17 = .ok (.aload_n 0, 1) := by decide +kernel
theorem dX7_keep_18 : decode cX7_keep 18 = .ok (.getfield 15, 3) := by decide +kernel
theorem dX7_keep_21 : decode cX7_keep 21 = .ok (.iconst 1, 1) := by decide +kernel
theorem dX7_keep_22 : decode cX7_keep 22 = .ok (.if_icmp .ne 8, 3) := by decide +kernel
theorem dX7_keep_25 : decode cX7_keep 25 = .ok (.iload_n 2, 1) := by decide +kernel
theorem dX7_keep_26 : decode cX7_keep 26 = .ok (.i2s, 1) := by decide +kernel
theorem dX7_keep_27 : decode cX7_keep 27 = .ok (.goto 4, 3) := by decide +kernel
theorem dX7_keep_30 : decode cX7_keep 30 = .ok (.iload_n 2, 1) := by decide +kernel
theorem dX7_keep_31 : decode cX7_keep 31 = .ok (.iastore, 1) := by decide +kernel
theorem dX7_keep_32 : decode cX7_keep 32 = .ok (.aload_n 0, 1) := by decide +kernel
theorem dX7_keep_33 : decode cX7_keep 33 = .ok (.getfield 9, 3) := by decide +kernel
theorem dX7_keep_36 : decode cX7_keep 36 = .ok (.iload_n 1, 1) := by decide +kernel
theorem dX7_keep_37 : decode cX7_keep 37 = .ok (.iaload, 1) := by decide +kernel
theorem dX7_keep_38 : decode cX7_keep 38 = .ok (.ireturn, 1) := by decide +kernel
theorem dX7_hasHeights_0 : decode cX7_hasHeights 0 = .ok (.iconst 0, 1) := by decide +kernel
theorem dX7_hasHeights_1 : decode cX7_hasHeights 1 = .ok (.istore_n 2, 1) := by decide +kernel
theorem dX7_hasHeights_2 : decode cX7_hasHeights 2 = .ok (.iload_n 2, 1) := by decide +kernel
theorem dX7_hasHeights_3 : decode cX7_hasHeights 3 = .ok (.bipush 8, 2) := by decide +kernel
theorem dX7_hasHeights_5 : decode cX7_hasHeights 5 = .ok (.if_icmp .ge 35, 3) := by decide +kernel
theorem dX7_hasHeights_8 : decode cX7_hasHeights 8 = .ok (.aload_n 0, 1) := by decide +kernel
theorem dX7_hasHeights_9 : decode cX7_hasHeights 9 = .ok (.getfield 9, 3) := by decide +kernel
theorem dX7_hasHeights_12 : decode cX7_hasHeights 12 = .ok (.iload_n 1, 1) := by decide +kernel
theorem dX7_hasHeights_13 : decode cX7_hasHeights 13 = .ok (.iload_n 2, 1) := by decide +kernel
theorem dX7_hasHeights_14 : decode cX7_hasHeights 14 = .ok (.iadd, 1) := by decide +kernel
theorem dX7_hasHeights_15 : decode cX7_hasHeights 15 = .ok (.iaload, 1) := by decide +kernel
theorem dX7_hasHeights_16 : decode cX7_hasHeights 16 = .ok (.ifCond .lt 16, 3) := by decide +kernel
theorem dX7_hasHeights_19 : decode cX7_hasHeights 19 = .ok (.aload_n 0, 1) := by decide +kernel
theorem dX7_hasHeights_20 : decode cX7_hasHeights 20 = .ok (.getfield 9, 3) := by decide +kernel
theorem dX7_hasHeights_23 : decode cX7_hasHeights 23 = .ok (.iload_n 1, 1) := by decide +kernel
theorem dX7_hasHeights_24 : decode cX7_hasHeights 24 = .ok (.iload_n 2, 1) := by decide +kernel
theorem dX7_hasHeights_25 : decode cX7_hasHeights 25 = .ok (.iadd, 1) := by decide +kernel
theorem dX7_hasHeights_26 : decode cX7_hasHeights 26 = .ok (.iaload, 1) := by decide +kernel
theorem dX7_hasHeights_27 : decode cX7_hasHeights 27 = .ok (.bipush 6, 2) := by decide +kernel
theorem dX7_hasHeights_29 : decode cX7_hasHeights 29 = .ok (.if_icmp .le 5, 3) := by decide +kernel
theorem dX7_hasHeights_32 : decode cX7_hasHeights 32 = .ok (.iconst 0, 1) := by decide +kernel
theorem dX7_hasHeights_33 : decode cX7_hasHeights 33 = .ok (.ireturn, 1) := by decide +kernel
theorem dX7_hasHeights_34 : decode cX7_hasHeights 34 = .ok (.iinc 2 1, 3) := by decide +kernel
theorem dX7_hasHeights_37 : decode cX7_hasHeights 37 = .ok (.goto (-35), 3) := by decide +kernel
theorem dX7_hasHeights_40 : decode cX7_hasHeights 40 = .ok (.iconst 1, 1) := by decide +kernel
theorem dX7_hasHeights_41 : decode cX7_hasHeights 41 = .ok (.ireturn, 1) := by decide +kernel
theorem dX9_init_0 : decode cX9_init 0 = .ok (.aload_n 0, 1) := by decide +kernel
theorem dX9_init_1 : decode cX9_init 1 = .ok (.invokespecial 1, 3) := by decide +kernel
theorem dX9_init_4 : decode cX9_init 4 = .ok (.aload_n 0, 1) := by decide +kernel
theorem dX9_init_5 : decode cX9_init 5 = .ok (.bipush 16, 2) := by decide +kernel
theorem dX9_init_7 : decode cX9_init 7 = .ok (.newarray .int, 2) := by decide +kernel
theorem dX9_init_9 : decode cX9_init 9 = .ok (.putfield 7, 3) := by decide +kernel
theorem dX9_init_12 : decode cX9_init 12 = .ok (.aload_n 0, 1) := by decide +kernel
theorem dX9_init_13 : decode cX9_init 13 = .ok (.iconst 0, 1) := by decide +kernel
theorem dX9_init_14 : decode cX9_init 14 = .ok (.putfield 13, 3) := by decide +kernel
theorem dX9_init_17 : decode cX9_init 17 = .ok (.return_, 1) := by decide +kernel
theorem dX9_begin_0 : decode cX9_begin 0 = .ok (.aload_n 0, 1) := by decide +kernel
theorem dX9_begin_1 : decode cX9_begin 1 = .ok (.iconst 0, 1) := by decide +kernel
theorem dX9_begin_2 : decode cX9_begin 2 = .ok (.putfield 13, 3) := by decide +kernel
theorem dX9_begin_5 : decode cX9_begin 5 = .ok (.return_, 1) := by decide +kernel
theorem dX9_leave_0 : decode cX9_leave 0 = .ok (.aload_n 0, 1) := by decide +kernel
theorem dX9_leave_1 : decode cX9_leave 1 = .ok (.getfield 13, 3) := by decide +kernel
theorem dX9_leave_4 : decode cX9_leave 4 = .ok (.aload_n 0, 1) := by decide +kernel
theorem dX9_leave_5 : decode cX9_leave 5 = .ok (.getfield 7, 3) := by decide +kernel
theorem dX9_leave_8 : decode cX9_leave 8 = .ok (.arraylength, 1) := by decide +kernel
theorem dX9_leave_9 : decode cX9_leave 9 = .ok (.if_icmp .ge 23, 3) := by decide +kernel
theorem dX9_leave_12 : decode cX9_leave 12 = .ok (.aload_n 0, 1) := by decide +kernel
theorem dX9_leave_13 : decode cX9_leave 13 = .ok (.getfield 7, 3) := by decide +kernel
theorem dX9_leave_16 : decode cX9_leave 16 = .ok (.aload_n 0, 1) := by decide +kernel
theorem dX9_leave_17 : decode cX9_leave 17 = .ok (.getfield 13, 3) := by decide +kernel
theorem dX9_leave_20 : decode cX9_leave 20 = .ok (.iload_n 1, 1) := by decide +kernel
theorem dX9_leave_21 : decode cX9_leave 21 = .ok (.iastore, 1) := by decide +kernel
theorem dX9_leave_22 : decode cX9_leave 22 = .ok (.aload_n 0, 1) := by decide +kernel
theorem dX9_leave_23 : decode cX9_leave 23 = .ok (.dup, 1) := by decide +kernel
theorem dX9_leave_24 : decode cX9_leave 24 = .ok (.getfield 13, 3) := by decide +kernel
theorem dX9_leave_27 : decode cX9_leave 27 = .ok (.iconst 1, 1) := by decide +kernel
theorem dX9_leave_28 : decode cX9_leave 28 = .ok (.iadd, 1) := by decide +kernel
theorem dX9_leave_29 : decode cX9_leave 29 = .ok (.putfield 13, 3) := by decide +kernel
theorem dX9_leave_32 : decode cX9_leave 32 = .ok (.return_, 1) := by decide +kernel
theorem dX10_init_0 : decode cX10_init 0 = .ok (.aload_n 0, 1) := by decide +kernel
theorem dX10_init_1 : decode cX10_init 1 = .ok (.iload_n 1, 1) := by decide +kernel
theorem dX10_init_2 : decode cX10_init 2 = .ok (.iload_n 2, 1) := by decide +kernel
theorem dX10_init_3 : decode cX10_init 3 = .ok (.iload_n 3, 1) := by decide +kernel
theorem dX10_init_4 : decode cX10_init 4 = .ok (.iload 4, 2) := by decide +kernel
theorem dX10_init_6 : decode cX10_init 6 = .ok (.invokespecial 1, 3) := by decide +kernel
theorem dX10_init_9 : decode cX10_init 9 = .ok (.return_, 1) := by decide +kernel
theorem dX10_sort_0 : decode cX10_sort 0 = .ok (.iconst 3, 1) := by decide +kernel
theorem dX10_sort_1 : decode cX10_sort 1 = .ok (.ireturn, 1) := by decide +kernel
theorem dX10_mark_0 : decode cX10_mark 0 = .ok (.aload_n 1, 1) := by decide +kernel
theorem dX10_mark_1 : decode cX10_mark 1 = .ok (.bipush 22, 2) := by decide +kernel
theorem dX10_mark_3 : decode cX10_mark 3 = .ok (.invokevirtual 9, 3) := by decide +kernel
theorem dX10_mark_6 : decode cX10_mark 6 = .ok (.aload_n 0, 1) := by decide +kernel
theorem dX10_mark_7 : decode cX10_mark 7 = .ok (.aload_n 1, 1) := by decide +kernel
theorem dX10_mark_8 : decode cX10_mark 8 = .ok (.invokespecial 15, 3) := by decide +kernel
theorem dX10_mark_11 : decode cX10_mark 11 = .ok (.sipush 1000, 3) := by decide +kernel
theorem dX10_mark_14 : decode cX10_mark 14 = .ok (.isub, 1) := by decide +kernel
theorem dX10_mark_15 : decode cX10_mark 15 = .ok (.ireturn, 1) := by decide +kernel
theorem dJ9_abs_0f7a4_0 : decode cJ9_abs_0f7a4 0 = .ok (.iload_n 0, 1) := by decide +kernel
theorem dJ9_abs_0f7a4_1 : decode cJ9_abs_0f7a4 1 = .ok (.ifCond .ge 8, 3) := by decide +kernel
theorem dJ9_abs_0f7a4_4 : decode cJ9_abs_0f7a4 4 = .ok (.iload_n 0, 1) := by decide +kernel
theorem dJ9_abs_0f7a4_5 : decode cJ9_abs_0f7a4 5 = .ok (.ineg, 1) := by decide +kernel
theorem dJ9_abs_0f7a4_6 : decode cJ9_abs_0f7a4 6 = .ok (.goto 4, 3) := by decide +kernel
theorem dJ9_abs_0f7a4_9 : decode cJ9_abs_0f7a4 9 = .ok (.iload_n 0, 1) := by decide +kernel
theorem dJ9_abs_0f7a4_10 : decode cJ9_abs_0f7a4 10 = .ok (.ireturn, 1) := by decide +kernel
theorem dJ9_max_7cf53_0 : decode cJ9_max_7cf53 0 = .ok (.iload_n 0, 1) := by decide +kernel
theorem dJ9_max_7cf53_1 : decode cJ9_max_7cf53 1 = .ok (.iload_n 1, 1) := by decide +kernel
theorem dJ9_max_7cf53_2 : decode cJ9_max_7cf53 2 = .ok (.if_icmp .lt 7, 3) := by decide +kernel
theorem dJ9_max_7cf53_5 : decode cJ9_max_7cf53 5 = .ok (.iload_n 0, 1) := by decide +kernel
theorem dJ9_max_7cf53_6 : decode cJ9_max_7cf53 6 = .ok (.goto 4, 3) := by decide +kernel
theorem dJ9_max_7cf53_9 : decode cJ9_max_7cf53 9 = .ok (.iload_n 1, 1) := by decide +kernel
theorem dJ9_max_7cf53_10 : decode cJ9_max_7cf53 10 = .ok (.ireturn, 1) := by decide +kernel
theorem dJ9_min_7cf53_0 : decode cJ9_min_7cf53 0 = .ok (.iload_n 0, 1) := by decide +kernel
theorem dJ9_min_7cf53_1 : decode cJ9_min_7cf53 1 = .ok (.iload_n 1, 1) := by decide +kernel
theorem dJ9_min_7cf53_2 : decode cJ9_min_7cf53 2 = .ok (.if_icmp .gt 7, 3) := by decide +kernel
theorem dJ9_min_7cf53_5 : decode cJ9_min_7cf53 5 = .ok (.iload_n 0, 1) := by decide +kernel
theorem dJ9_min_7cf53_6 : decode cJ9_min_7cf53 6 = .ok (.goto 4, 3) := by decide +kernel
theorem dJ9_min_7cf53_9 : decode cJ9_min_7cf53 9 = .ok (.iload_n 1, 1) := by decide +kernel
theorem dJ9_min_7cf53_10 : decode cJ9_min_7cf53 10 = .ok (.ireturn, 1) := by decide +kernel
theorem dJ0_length_8abf5_0 : decode cJ0_length_8abf5 0 = .ok (.aload_n 0, 1) := by decide +kernel
theorem dJ0_length_8abf5_1 : decode cJ0_length_8abf5 1 = .ok (.getfield 9, 3) := by decide +kernel
theorem dJ0_length_8abf5_4 : decode cJ0_length_8abf5 4 = .ok (.arraylength, 1) := by decide +kernel
theorem dJ0_length_8abf5_5 : decode cJ0_length_8abf5 5 = .ok (.aload_n 0, 1) := by decide +kernel
theorem dJ0_length_8abf5_6 : decode cJ0_length_8abf5 6 = .ok (.invokevirtual 335, 3) := by decide +kernel
theorem dJ0_length_8abf5_9 : decode cJ0_length_8abf5 9 = .ok (.ishr, 1) := by decide +kernel
theorem dJ0_length_8abf5_10 : decode cJ0_length_8abf5 10 = .ok (.ireturn, 1) := by decide +kernel
theorem dJ0_charAt_5068e_0 : decode cJ0_charAt_5068e 0 = .ok (.aload_n 0, 1) := by decide +kernel
theorem dJ0_charAt_5068e_1 : decode cJ0_charAt_5068e 1 = .ok (.invokevirtual 492, 3) := by decide +kernel
theorem dJ0_charAt_5068e_4 : decode cJ0_charAt_5068e 4 = .ok (.ifCond .eq 12, 3) := by decide +kernel
theorem dJ0_charAt_5068e_7 : decode cJ0_charAt_5068e 7 = .ok (.aload_n 0, 1) := by decide +kernel
