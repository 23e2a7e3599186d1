theorem dX11_drop_27 : decode cX11_drop 27 = .ok (.iconst (-1), 1) := by decide +kernel
theorem dX11_drop_28 : decode cX11_drop 28 = .ok (.putfield 95, 3) := by decide +kernel
theorem dX11_drop_31 : decode cX11_drop 31 = .ok (.aload_n 0, 1) := by decide +kernel
theorem dX11_drop_32 : decode cX11_drop 32 = .ok (.aload_n 2, 1) := by decide +kernel
theorem dX11_drop_33 : decode cX11_drop 33 = .ok (.getfield 108, 3) := by decide +kernel
theorem dX11_drop_36 : decode cX11_drop 36 = .ok (.invokevirtual 80, 3) := by decide +kernel
theorem dX11_drop_39 : decode cX11_drop 39 = .ok (.ireturn, 1) := by decide +kernel
theorem dX11_rowAt_0 : decode cX11_rowAt 0 = .ok (.iload_n 1, 1) := by decide +kernel
theorem dX11_rowAt_1 : decode cX11_rowAt 1 = .ok (.ifCond .lt 9, 3) := by decide +kernel
theorem dX11_rowAt_4 : decode cX11_rowAt 4 = .ok (.iload_n 1, 1) := by decide +kernel
theorem dX11_rowAt_5 : decode cX11_rowAt 5 = .ok (.bipush 8, 2) := by decide +kernel
theorem dX11_rowAt_7 : decode cX11_rowAt 7 = .ok (.if_icmp .lt 7, 3) := by decide +kernel
theorem dX11_rowAt_10 : decode cX11_rowAt 10 = .ok (.aconst_null, 1) := by decide +kernel
theorem dX11_rowAt_11 : decode cX11_rowAt 11 = .ok (.goto 9, 3) := by decide +kernel
theorem dX11_rowAt_14 : decode cX11_rowAt 14 = .ok (.aload_n 0, 1) := by decide +kernel
theorem dX11_rowAt_15 : decode cX11_rowAt 15 = .ok (.getfield 11, 3) := by decide +kernel
theorem dX11_rowAt_18 : decode cX11_rowAt 18 = .ok (.iload_n 1, 1) := by decide +kernel
theorem dX11_rowAt_19 : decode cX11_rowAt 19 = .ok (.aaload, 1) := by decide +kernel
theorem dX11_rowAt_20 : decode cX11_rowAt 20 = .ok (.areturn, 1) := by decide +kernel
theorem dX11_finding_0 : decode cX11_finding 0 = .ok (.aload_n 0, 1) := by decide +kernel
theorem dX11_finding_1 : decode cX11_finding 1 = .ok (.iload_n 1, 1) := by decide +kernel
theorem dX11_finding_2 : decode cX11_finding 2 = .ok (.putfield 63, 3) := by decide +kernel
theorem dX11_finding_5 : decode cX11_finding 5 = .ok (.ldc 111, 2) := by decide +kernel
theorem dX11_finding_7 : decode cX11_finding 7 = .ok (.iload_n 1, 1) := by decide +kernel
theorem dX11_finding_8 : decode cX11_finding 8 = .ok (.isub, 1) := by decide +kernel
theorem dX11_finding_9 : decode cX11_finding 9 = .ok (.ireturn, 1) := by decide +kernel
theorem dX11_withoutFinding_0 : decode cX11_withoutFinding 0 = .ok (.aload_n 0, 1) := by decide +kernel
theorem dX11_withoutFinding_1 : decode cX11_withoutFinding 1 = .ok (.iconst 0, 1) := by decide +kernel
theorem dX11_withoutFinding_2 : decode cX11_withoutFinding 2 = .ok (.putfield 63, 3) := by decide +kernel
theorem dX11_withoutFinding_5 : decode cX11_withoutFinding 5 = .ok (.iload_n 1, 1) := by decide +kernel
theorem dX11_withoutFinding_6 : decode cX11_withoutFinding 6 = .ok (.ireturn, 1) := by decide +kernel
theorem dX11_feed_0 : decode cX11_feed 0 = .ok (.iload_n 3, 1) := by decide +kernel
theorem dX11_feed_1 : decode cX11_feed 1 = .ok (.iconst 1, 1) := by decide +kernel
theorem dX11_feed_2 : decode cX11_feed 2 = .ok (.if_icmp .lt 9, 3) := by decide +kernel
theorem dX11_feed_5 : decode cX11_feed 5 = .ok (.iload_n 3, 1) := by decide +kernel
theorem dX11_feed_6 : decode cX11_feed 6 = .ok (.bipush 8, 2) := by decide +kernel
theorem dX11_feed_8 : decode cX11_feed 8 = .ok (.if_icmp .le 6, 3) := by decide +kernel
theorem dX11_feed_11 : decode cX11_feed 11 = .ok (.ldc 71, 2) := by decide +kernel
theorem dX11_feed_13 : decode cX11_feed 13 = .ok (.ireturn, 1) := by decide +kernel
theorem dX11_feed_14 : decode cX11_feed 14 = .ok (.aload_n 0, 1) := by decide +kernel
theorem dX11_feed_15 : decode cX11_feed 15 = .ok (.getfield 18, 3) := by decide +kernel
theorem dX11_feed_18 : decode cX11_feed 18 = .ok (.lload_n 1, 1) := by decide +kernel
theorem dX11_feed_19 : decode cX11_feed 19 = .ok (.iload_n 3, 1) := by decide +kernel
theorem dX11_feed_20 : decode cX11_feed 20 = .ok (.invokevirtual 112, 3) := by decide +kernel
theorem dX11_feed_23 : decode cX11_feed 23 = .ok (.ifCond .eq 13, 3) := by decide +kernel
theorem dX11_feed_26 : decode cX11_feed 26 = .ok (.aload_n 0, 1) := by decide +kernel
theorem dX11_feed_27 : decode cX11_feed 27 = .ok (.getfield 18, 3) := by decide +kernel
theorem dX11_feed_30 : decode cX11_feed 30 = .ok (.getfield 116, 3) := by decide +kernel
theorem dX11_feed_33 : decode cX11_feed 33 = .ok (.goto 5, 3) := by decide +kernel
theorem dX11_feed_36 : decode cX11_feed 36 = .ok (.ldc 117, 2) := by decide +kernel
theorem dX11_feed_38 : decode cX11_feed 38 = .ok (.ireturn, 1) := by decide +kernel
theorem dX11_ground_0 : decode cX11_ground 0 = .ok (.aload_n 0, 1) := by decide +kernel
theorem dX11_ground_1 : decode cX11_ground 1 = .ok (.getfield 18, 3) := by decide +kernel
theorem dX11_ground_4 : decode cX11_ground 4 = .ok (.invokevirtual 118, 3) := by decide +kernel
theorem dX11_ground_7 : decode cX11_ground 7 = .ok (.astore_n 1, 1) := by decide +kernel
theorem dX11_ground_8 : decode cX11_ground 8 = .ok (.aload_n 1, 1) := by decide +kernel
theorem dX11_ground_9 : decode cX11_ground 9 = .ok (.ifnonnull 25, 3) := by decide +kernel
theorem dX11_ground_12 : decode cX11_ground 12 = .ok (.aload_n 0, 1) := by decide +kernel
theorem dX11_ground_13 : decode cX11_ground 13 = .ok (.aload_n 0, 1) := by decide +kernel
theorem dX11_ground_14 : decode cX11_ground 14 = .ok (.getfield 18, 3) := by decide +kernel
theorem dX11_ground_17 : decode cX11_ground 17 = .ok (.getfield 122, 3) := by decide +kernel
theorem dX11_ground_20 : decode cX11_ground 20 = .ok (.putfield 60, 3) := by decide +kernel
theorem dX11_ground_23 : decode cX11_ground 23 = .ok (.ldc 125, 2) := by decide +kernel
theorem dX11_ground_25 : decode cX11_ground 25 = .ok (.aload_n 0, 1) := by decide +kernel
theorem dX11_ground_26 : decode cX11_ground 26 = .ok (.getfield 18, 3) := by decide +kernel
theorem dX11_ground_29 : decode cX11_ground 29 = .ok (.getfield 126, 3) := by decide +kernel
theorem dX11_ground_32 : decode cX11_ground 32 = .ok (.isub, 1) := by decide +kernel
theorem dX11_ground_33 : decode cX11_ground 33 = .ok (.ireturn, 1) := by decide +kernel
theorem dX11_ground_34 : decode cX11_ground 34 = .ok (.aload_n 0, 1) := by decide +kernel
theorem dX11_ground_35 : decode cX11_ground 35 = .ok (.aload_n 1, 1) := by decide +kernel
theorem dX11_ground_36 : decode cX11_ground 36 = .ok (.putfield 49, 3) := by decide +kernel
theorem dX11_ground_39 : decode cX11_ground 39 = .ok (.aload_n 0, 1) := by decide +kernel
theorem dX11_ground_40 : decode cX11_ground 40 = .ok (.getfield 32, 3) := by decide +kernel
theorem dX11_ground_43 : decode cX11_ground 43 = .ok (.aload_n 1, 1) := by decide +kernel
theorem dX11_ground_44 : decode cX11_ground 44 = .ok (.invokevirtual 129, 3) := by decide +kernel
theorem dX11_ground_47 : decode cX11_ground 47 = .ok (.aload_n 0, 1) := by decide +kernel
theorem dX11_ground_48 : decode cX11_ground 48 = .ok (.iconst 0, 1) := by decide +kernel
theorem dX11_ground_49 : decode cX11_ground 49 = .ok (.putfield 57, 3) := by decide +kernel
theorem dX11_ground_52 : decode cX11_ground 52 = .ok (.aload_n 1, 1) := by decide +kernel
theorem dX11_ground_53 : decode cX11_ground 53 = .ok (.getfield 132, 3) := by decide +kernel
theorem dX11_ground_56 : decode cX11_ground 56 = .ok (.ireturn, 1) := by decide +kernel
theorem dX11_fault_0 : decode cX11_fault 0 = .ok (.aload_n 0, 1) := by decide +kernel
theorem dX11_fault_1 : decode cX11_fault 1 = .ok (.getfield 60, 3) := by decide +kernel
theorem dX11_fault_4 : decode cX11_fault 4 = .ok (.ireturn, 1) := by decide +kernel
theorem dX11_cross_0 : decode cX11_cross 0 = .ok (.aload_n 0, 1) := by decide +kernel
theorem dX11_cross_1 : decode cX11_cross 1 = .ok (.getfield 49, 3) := by decide +kernel
theorem dX11_cross_4 : decode cX11_cross 4 = .ok (.astore_n 3, 1) := by decide +kernel
theorem dX11_cross_5 : decode cX11_cross 5 = .ok (.aload_n 0, 1) := by decide +kernel
theorem dX11_cross_6 : decode cX11_cross 6 = .ok (.iload_n 1, 1) := by decide +kernel
theorem dX11_cross_7 : decode cX11_cross 7 = .ok (.invokevirtual 135, 3) := by decide +kernel
theorem dX11_cross_10 : decode cX11_cross 10 = .ok (.astore 4, 2) := by decide +kernel
theorem dX11_cross_12 : decode cX11_cross 12 = .ok (.aload_n 3, 1) := by decide +kernel
theorem dX11_cross_13 : decode cX11_cross 13 = .ok (.ifnull 15, 3) := by decide +kernel
theorem dX11_cross_16 : decode cX11_cross 16 = .ok (.aload 4, 2) := by decide +kernel
theorem dX11_cross_18 : decode cX11_cross 18 = .ok (.ifnull 10, 3) := by decide +kernel
theorem dX11_cross_21 : decode cX11_cross 21 = .ok (.iload_n 2, 1) := by decide +kernel
theorem dX11_cross_22 : decode cX11_cross 22 = .ok (.invokestatic 139, 3) := by decide +kernel
theorem dX11_cross_25 : decode cX11_cross 25 = .ok (.ifCond .ne 6, 3) := by decide +kernel
theorem dX11_cross_28 : decode cX11_cross 28 = .ok (.ldc 71, 2) := by decide +kernel
theorem dX11_cross_30 : decode cX11_cross 30 = .ok (.ireturn, 1) := by decide +kernel
theorem dX11_cross_31 : decode cX11_cross 31 = .ok (.aload_n 3, 1) := by decide +kernel
theorem dX11_cross_32 : decode cX11_cross 32 = .ok (.aload 4, 2) := by decide +kernel
theorem dX11_cross_34 : decode cX11_cross 34 = .ok (.iload_n 2, 1) := by decide +kernel
theorem dX11_cross_35 : decode cX11_cross 35 = .ok (.aload_n 0, 1) := by decide +kernel
theorem dX11_cross_36 : decode cX11_cross 36 = .ok (.getfield 32, 3) := by decide +kernel
theorem dX11_cross_39 : decode cX11_cross 39 = .ok (.invokevirtual 143, 3) := by decide +kernel
theorem dX11_cross_42 : decode cX11_cross 42 = .ok (.ifCond .ne 6, 3) := by decide +kernel
theorem dX11_cross_45 : decode cX11_cross 45 = .ok (.ldc 147, 2) := by decide +kernel
theorem dX11_cross_47 : decode cX11_cross 47 = .ok (.ireturn, 1) := by decide +kernel
theorem dX11_cross_48 : decode cX11_cross 48 = .ok (.aload_n 0, 1) := by decide +kernel
theorem dX11_cross_49 : decode cX11_cross 49 = .ok (.invokevirtual 148, 3) := by decide +kernel
theorem dX11_cross_52 : decode cX11_cross 52 = .ok (.aload_n 0, 1) := by decide +kernel
theorem dX11_cross_53 : decode cX11_cross 53 = .ok (.getfield 32, 3) := by decide +kernel
theorem dX11_cross_56 : decode cX11_cross 56 = .ok (.aload 4, 2) := by decide +kernel
theorem dX11_cross_58 : decode cX11_cross 58 = .ok (.iload_n 2, 1) := by decide +kernel
theorem dX11_cross_59 : decode cX11_cross 59 = .ok (.aload_n 3, 1) := by decide +kernel
theorem dX11_cross_60 : decode cX11_cross 60 = .ok (.invokevirtual 151, 3) := by decide +kernel
theorem dX11_cross_63 : decode cX11_cross 63 = .ok (.aload_n 0, 1) := by decide +kernel
theorem dX11_cross_64 : decode cX11_cross 64 = .ok (.getfield 32, 3) := by decide +kernel
theorem dX11_cross_67 : decode cX11_cross 67 = .ok (.getfield 155, 3) := by decide +kernel
theorem dX11_cross_70 : decode cX11_cross 70 = .ok (.ireturn, 1) := by decide +kernel
theorem dX11_undo_0 : decode cX11_undo 0 = .ok (.aload_n 0, 1) := by decide +kernel
theorem dX11_undo_1 : decode cX11_undo 1 = .ok (.getfield 57, 3) := by decide +kernel
theorem dX11_undo_4 : decode cX11_undo 4 = .ok (.ifCond .gt 6, 3) := by decide +kernel
theorem dX11_undo_7 : decode cX11_undo 7 = .ok (.ldc 147, 2) := by decide +kernel
theorem dX11_undo_9 : decode cX11_undo 9 = .ok (.ireturn, 1) := by decide +kernel
theorem dX11_undo_10 : decode cX11_undo 10 = .ok (.aload_n 0, 1) := by decide +kernel
theorem dX11_undo_11 : decode cX11_undo 11 = .ok (.dup, 1) := by decide +kernel
theorem dX11_undo_12 : decode cX11_undo 12 = .ok (.getfield 57, 3) := by decide +kernel
theorem dX11_undo_15 : decode cX11_undo 15 = .ok (.iconst 1, 1) := by decide +kernel
theorem dX11_undo_16 : decode cX11_undo 16 = .ok (.isub, 1) := by decide +kernel
theorem dX11_undo_17 : decode cX11_undo 17 = .ok (.putfield 57, 3) := by decide +kernel
theorem dX11_undo_20 : decode cX11_undo 20 = .ok (.aload_n 0, 1) := by decide +kernel
theorem dX11_undo_21 : decode cX11_undo 21 = .ok (.getfield 32, 3) := by decide +kernel
theorem dX11_undo_24 : decode cX11_undo 24 = .ok (.aload_n 0, 1) := by decide +kernel
theorem dX11_undo_25 : decode cX11_undo 25 = .ok (.getfield 36, 3) := by decide +kernel
theorem dX11_undo_28 : decode cX11_undo 28 = .ok (.aload_n 0, 1) := by decide +kernel
theorem dX11_undo_29 : decode cX11_undo 29 = .ok (.getfield 53, 3) := by decide +kernel
theorem dX11_undo_32 : decode cX11_undo 32 = .ok (.aload_n 0, 1) := by decide +kernel
theorem dX11_undo_33 : decode cX11_undo 33 = .ok (.getfield 57, 3) := by decide +kernel
theorem dX11_undo_36 : decode cX11_undo 36 = .ok (.iadd, 1) := by decide +kernel
theorem dX11_undo_37 : decode cX11_undo 37 = .ok (.bipush 24, 2) := by decide +kernel
theorem dX11_undo_39 : decode cX11_undo 39 = .ok (.irem, 1) := by decide +kernel
theorem dX11_undo_40 : decode cX11_undo 40 = .ok (.aaload, 1) := by decide +kernel
theorem dX11_undo_41 : decode cX11_undo 41 = .ok (.invokevirtual 156, 3) := by decide +kernel
theorem dX11_undo_44 : decode cX11_undo 44 = .ok (.aload_n 0, 1) := by decide +kernel
theorem dX11_undo_45 : decode cX11_undo 45 = .ok (.getfield 57, 3) := by decide +kernel
theorem dX11_undo_48 : decode cX11_undo 48 = .ok (.ireturn, 1) := by decide +kernel
theorem dX11_person_0 : decode cX11_person 0 = .ok (.aload_n 0, 1) := by decide +kernel
theorem dX11_person_1 : decode cX11_person 1 = .ok (.getfield 49, 3) := by decide +kernel
theorem dX11_person_4 : decode cX11_person 4 = .ok (.astore_n 3, 1) := by decide +kernel
theorem dX11_person_5 : decode cX11_person 5 = .ok (.aload_n 0, 1) := by decide +kernel
theorem dX11_person_6 : decode cX11_person 6 = .ok (.iload_n 1, 1) := by decide +kernel
theorem dX11_person_7 : decode cX11_person 7 = .ok (.invokevirtual 135, 3) := by decide +kernel
theorem dX11_person_10 : decode cX11_person 10 = .ok (.astore 4, 2) := by decide +kernel
theorem dX11_person_12 : decode cX11_person 12 = .ok (.aload_n 3, 1) := by decide +kernel
theorem dX11_person_13 : decode cX11_person 13 = .ok (.ifnull 8, 3) := by decide +kernel
theorem dX11_person_16 : decode cX11_person 16 = .ok (.aload 4, 2) := by decide +kernel
theorem dX11_person_18 : decode cX11_person 18 = .ok (.ifnonnull 6, 3) := by decide +kernel
theorem dX11_person_21 : decode cX11_person 21 = .ok (.ldc 71, 2) := by decide +kernel
theorem dX11_person_23 : decode cX11_person 23 = .ok (.ireturn, 1) := by decide +kernel
theorem dX11_person_24 : decode cX11_person 24 = .ok (.iload_n 2, 1) := by decide +kernel
theorem dX11_person_25 : decode cX11_person 25 = .ok (.tableswitch 60 0 3 #[31, 37, 43, 49], 31) := by decide +kernel
theorem dX11_person_56 : decode cX11_person 56 = .ok (.aload 4, 2) := by decide +kernel
theorem dX11_person_58 : decode cX11_person 58 = .ok (.getfield 160, 3) := by decide +kernel
theorem dX11_person_61 : decode cX11_person 61 = .ok (.ireturn, 1) := by decide +kernel
theorem dX11_person_62 : decode cX11_person 62 = .ok (.aload 4, 2) := by decide +kernel
theorem dX11_person_64 : decode cX11_person 64 = .ok (.getfield 165, 3) := by decide +kernel
theorem dX11_person_67 : decode cX11_person 67 = .ok (.ireturn, 1) := by decide +kernel
theorem dX11_person_68 : decode cX11_person 68 = .ok (.aload 4, 2) := by decide +kernel
theorem dX11_person_70 : decode cX11_person 70 = .ok (.getfield 168, 3) := by decide +kernel
theorem dX11_person_73 : decode cX11_person 73 = .ok (.ireturn, 1) := by decide +kernel
theorem dX11_person_74 : decode cX11_person 74 = .ok (.aload_n 3, 1) := by decide +kernel
theorem dX11_person_75 : decode cX11_person 75 = .ok (.aload 4, 2) := by decide +kernel
theorem dX11_person_77 : decode cX11_person 77 = .ok (.aload_n 0, 1) := by decide +kernel
theorem dX11_person_78 : decode cX11_person 78 = .ok (.getfield 32, 3) := by decide +kernel
theorem dX11_person_81 : decode cX11_person 81 = .ok (.invokevirtual 171, 3) := by decide +kernel
theorem dX11_person_84 : decode cX11_person 84 = .ok (.ireturn, 1) := by decide +kernel
theorem dX11_person_85 : decode cX11_person 85 = .ok (.ldc 71, 2) := by decide +kernel
theorem dX11_person_87 : decode cX11_person 87 = .ok (.ireturn, 1) := by decide +kernel
theorem dX11_cell_0 : decode cX11_cell 0 = .ok (.aload_n 0, 1) := by decide +kernel
theorem dX11_cell_1 : decode cX11_cell 1 = .ok (.getfield 49, 3) := by decide +kernel
theorem dX11_cell_4 : decode cX11_cell 4 = .ok (.astore_n 3, 1) := by decide +kernel
theorem dX11_cell_5 : decode cX11_cell 5 = .ok (.aload_n 3, 1) := by decide +kernel
theorem dX11_cell_6 : decode cX11_cell 6 = .ok (.ifnonnull 6, 3) := by decide +kernel
theorem dX11_cell_9 : decode cX11_cell 9 = .ok (.ldc 147, 2) := by decide +kernel
theorem dX11_cell_11 : decode cX11_cell 11 = .ok (.ireturn, 1) := by decide +kernel
theorem dX11_cell_12 : decode cX11_cell 12 = .ok (.iload_n 1, 1) := by decide +kernel
theorem dX11_cell_13 : decode cX11_cell 13 = .ok (.invokestatic 139, 3) := by decide +kernel
theorem dX11_cell_16 : decode cX11_cell 16 = .ok (.ifCond .ne 6, 3) := by decide +kernel
theorem dX11_cell_19 : decode cX11_cell 19 = .ok (.ldc 71, 2) := by decide +kernel
theorem dX11_cell_21 : decode cX11_cell 21 = .ok (.ireturn, 1) := by decide +kernel
theorem dX11_cell_22 : decode cX11_cell 22 = .ok (.iload_n 2, 1) := by decide +kernel
theorem dX11_cell_23 : decode cX11_cell 23 = .ok (.tableswitch 77 0 3 #[29, 38, 53, 60], 29) := by decide +kernel
theorem dX11_cell_52 : decode cX11_cell 52 = .ok (.aload_n 0, 1) := by decide +kernel
theorem dX11_cell_53 : decode cX11_cell 53 = .ok (.getfield 32, 3) := by decide +kernel
theorem dX11_cell_56 : decode cX11_cell 56 = .ok (.iload_n 1, 1) := by decide +kernel
theorem dX11_cell_57 : decode cX11_cell 57 = .ok (.invokevirtual 175, 3) := by decide +kernel
theorem dX11_cell_60 : decode cX11_cell 60 = .ok (.ireturn, 1) := by decide +kernel
theorem dX11_cell_61 : decode cX11_cell 61 = .ok (.aload_n 3, 1) := by decide +kernel
theorem dX11_cell_62 : decode cX11_cell 62 = .ok (.getfield 178, 3) := by decide +kernel
theorem dX11_cell_65 : decode cX11_cell 65 = .ok (.iload_n 1, 1) := by decide +kernel
theorem dX11_cell_66 : decode cX11_cell 66 = .ok (.baload, 1) := by decide +kernel
theorem dX11_cell_67 : decode cX11_cell 67 = .ok (.ifCond .eq 7, 3) := by decide +kernel
theorem dX11_cell_70 : decode cX11_cell 70 = .ok (.iconst 1, 1) := by decide +kernel
theorem dX11_cell_71 : decode cX11_cell 71 = .ok (.goto 4, 3) := by decide +kernel
theorem dX11_cell_74 : decode cX11_cell 74 = .ok (.iconst 0, 1) := by decide +kernel
theorem dX11_cell_75 : decode cX11_cell 75 = .ok (.ireturn, 1) := by decide +kernel
theorem dX11_cell_76 : decode cX11_cell 76 = .ok (.aload_n 3, 1) := by decide +kernel
theorem dX11_cell_77 : decode cX11_cell 77 = .ok (.getfield 182, 3) := by decide +kernel
theorem dX11_cell_80 : decode cX11_cell 80 = .ok (.iload_n 1, 1) := by decide +kernel
theorem dX11_cell_81 : decode cX11_cell 81 = .ok (.iaload, 1) := by decide +kernel
theorem dX11_cell_82 : decode cX11_cell 82 = .ok (.ireturn, 1) := by decide +kernel
theorem dX11_cell_83 : decode cX11_cell 83 = .ok (.aload_n 0, 1) := by decide +kernel
theorem dX11_cell_84 : decode cX11_cell 84 = .ok (.getfield 32, 3) := by decide +kernel
theorem dX11_cell_87 : decode cX11_cell 87 = .ok (.iload_n 1, 1) := by decide +kernel
theorem dX11_cell_88 : decode cX11_cell 88 = .ok (.invokevirtual 185, 3) := by decide +kernel
theorem dX11_cell_91 : decode cX11_cell 91 = .ok (.ifCond .eq 7, 3) := by decide +kernel
theorem dX11_cell_94 : decode cX11_cell 94 = .ok (.iconst 1, 1) := by decide +kernel
theorem dX11_cell_95 : decode cX11_cell 95 = .ok (.goto 4, 3) := by decide +kernel
theorem dX11_cell_98 : decode cX11_cell 98 = .ok (.iconst 0, 1) := by decide +kernel
theorem dX11_cell_99 : decode cX11_cell 99 = .ok (.ireturn, 1) := by decide +kernel
theorem dX11_cell_100 : decode cX11_cell 100 = .ok (.ldc 71, 2) := by decide +kernel
theorem dX11_cell_102 : decode cX11_cell 102 = .ok (.ireturn, 1) := by decide +kernel
theorem dX11_land_0 : decode cX11_land 0 = .ok (.aload_n 0, 1) := by decide +kernel
theorem dX11_land_1 : decode cX11_land 1 = .ok (.getfield 49, 3) := by decide +kernel
theorem dX11_land_4 : decode cX11_land 4 = .ok (.astore_n 3, 1) := by decide +kernel
theorem dX11_land_5 : decode cX11_land 5 = .ok (.aload_n 3, 1) := by decide +kernel
theorem dX11_land_6 : decode cX11_land 6 = .ok (.ifnonnull 6, 3) := by decide +kernel
theorem dX11_land_9 : decode cX11_land 9 = .ok (.ldc 147, 2) := by decide +kernel
theorem dX11_land_11 : decode cX11_land 11 = .ok (.ireturn, 1) := by decide +kernel
theorem dX11_land_12 : decode cX11_land 12 = .ok (.iload_n 1, 1) := by decide +kernel
theorem dX11_land_13 : decode cX11_land 13 = .ok (.invokestatic 188, 3) := by decide +kernel
theorem dX11_land_16 : decode cX11_land 16 = .ok (.ifCond .ne 6, 3) := by decide +kernel
theorem dX11_land_19 : decode cX11_land 19 = .ok (.ldc 71, 2) := by decide +kernel
theorem dX11_land_21 : decode cX11_land 21 = .ok (.ireturn, 1) := by decide +kernel
theorem dX11_land_22 : decode cX11_land 22 = .ok (.iload_n 2, 1) := by decide +kernel
theorem dX11_land_23 : decode cX11_land 23 = .ok (.tableswitch 55 0 2 #[25, 35, 45], 25) := by decide +kernel
theorem dX11_land_48 : decode cX11_land 48 = .ok (.aload_n 3, 1) := by decide +kernel
theorem dX11_land_49 : decode cX11_land 49 = .ok (.iload_n 1, 1) := by decide +kernel
theorem dX11_land_50 : decode cX11_land 50 = .ok (.aload_n 0, 1) := by decide +kernel
theorem dX11_land_51 : decode cX11_land 51 = .ok (.getfield 32, 3) := by decide +kernel
theorem dX11_land_54 : decode cX11_land 54 = .ok (.invokevirtual 191, 3) := by decide +kernel
theorem dX11_land_57 : decode cX11_land 57 = .ok (.ireturn, 1) := by decide +kernel
theorem dX11_land_58 : decode cX11_land 58 = .ok (.aload_n 3, 1) := by decide +kernel
theorem dX11_land_59 : decode cX11_land 59 = .ok (.iload_n 1, 1) := by decide +kernel
theorem dX11_land_60 : decode cX11_land 60 = .ok (.aload_n 0, 1) := by decide +kernel
theorem dX11_land_61 : decode cX11_land 61 = .ok (.getfield 32, 3) := by decide +kernel
theorem dX11_land_64 : decode cX11_land 64 = .ok (.invokevirtual 195, 3) := by decide +kernel
theorem dX11_land_67 : decode cX11_land 67 = .ok (.ireturn, 1) := by decide +kernel
theorem dX11_land_68 : decode cX11_land 68 = .ok (.aload_n 3, 1) := by decide +kernel
theorem dX11_land_69 : decode cX11_land 69 = .ok (.iload_n 1, 1) := by decide +kernel
theorem dX11_land_70 : decode cX11_land 70 = .ok (.aload_n 0, 1) := by decide +kernel
theorem dX11_land_71 : decode cX11_land 71 = .ok (.getfield 32, 3) := by decide +kernel
theorem dX11_land_74 : decode cX11_land 74 = .ok (.invokevirtual 198, 3) := by decide +kernel
theorem dX11_land_77 : decode cX11_land 77 = .ok (.ireturn, 1) := by decide +kernel
theorem dX11_land_78 : decode cX11_land 78 = .ok (.ldc 71, 2) := by decide +kernel
theorem dX11_land_80 : decode cX11_land 80 = .ok (.ireturn, 1) := by decide +kernel
theorem dX11_personAt_0 : decode cX11_personAt 0 = .ok (.aload_n 0, 1) := by decide +kernel
theorem dX11_personAt_1 : decode cX11_personAt 1 = .ok (.getfield 49, 3) := by decide +kernel
theorem dX11_personAt_4 : decode cX11_personAt 4 = .ok (.ifnonnull 7, 3) := by decide +kernel
theorem dX11_personAt_7 : decode cX11_personAt 7 = .ok (.aconst_null, 1) := by decide +kernel
theorem dX11_personAt_8 : decode cX11_personAt 8 = .ok (.goto 11, 3) := by decide +kernel
theorem dX11_personAt_11 : decode cX11_personAt 11 = .ok (.aload_n 0, 1) := by decide +kernel
theorem dX11_personAt_12 : decode cX11_personAt 12 = .ok (.getfield 49, 3) := by decide +kernel
theorem dX11_personAt_15 : decode cX11_personAt 15 = .ok (.iload_n 1, 1) := by decide +kernel
theorem dX11_personAt_16 : decode cX11_personAt 16 = .ok (.invokevirtual 201, 3) := by decide +kernel
theorem dX11_personAt_19 : decode cX11_personAt 19 = .ok (.areturn, 1) := by decide +kernel
theorem dX11_isCell_0 : decode cX11_isCell 0 = .ok (.iload_n 0, 1) := by decide +kernel
theorem dX11_isCell_1 : decode cX11_isCell 1 = .ok (.ifCond .lt 13, 3) := by decide +kernel
theorem dX11_isCell_4 : decode cX11_isCell 4 = .ok (.iload_n 0, 1) := by decide +kernel
theorem dX11_isCell_5 : decode cX11_isCell 5 = .ok (.bipush 48, 2) := by decide +kernel
theorem dX11_isCell_7 : decode cX11_isCell 7 = .ok (.if_icmp .ge 7, 3) := by decide +kernel
theorem dX11_isCell_10 : decode cX11_isCell 10 = .ok (.iconst 1, 1) := by decide +kernel
theorem dX11_isCell_11 : decode cX11_isCell 11 = .ok (.goto 4, 3) := by decide +kernel
theorem dX11_isCell_14 : decode cX11_isCell 14 = .ok (.iconst 0, 1) := by decide +kernel
theorem dX11_isCell_15 : decode cX11_isCell 15 = .ok (.ireturn, 1) := by decide +kernel
theorem dX11_isLand_0 : decode cX11_isLand 0 = .ok (.iload_n 0, 1) := by decide +kernel
theorem dX11_isLand_1 : decode cX11_isLand 1 = .ok (.ifCond .eq 8, 3) := by decide +kernel
theorem dX11_isLand_4 : decode cX11_isLand 4 = .ok (.iload_n 0, 1) := by decide +kernel
theorem dX11_isLand_5 : decode cX11_isLand 5 = .ok (.iconst 1, 1) := by decide +kernel
theorem dX11_isLand_6 : decode cX11_isLand 6 = .ok (.if_icmp .ne 7, 3) := by decide +kernel
theorem dX11_isLand_9 : decode cX11_isLand 9 = .ok (.iconst 1, 1) := by decide +kernel
theorem dX11_isLand_10 : decode cX11_isLand 10 = .ok (.goto 4, 3) := by decide +kernel
theorem dX11_isLand_13 : decode cX11_isLand 13 = .ok (.iconst 0, 1) := by decide +kernel
theorem dX11_isLand_14 : decode cX11_isLand 14 = .ok (.ireturn, 1) := by decide +kernel
theorem dX11_keepAct_0 : decode cX11_keepAct 0 = .ok (.aload_n 0, 1) := by decide +kernel
theorem dX11_keepAct_1 : decode cX11_keepAct 1 = .ok (.getfield 57, 3) := by decide +kernel
theorem dX11_keepAct_4 : decode cX11_keepAct 4 = .ok (.bipush 24, 2) := by decide +kernel
theorem dX11_keepAct_6 : decode cX11_keepAct 6 = .ok (.if_icmp .lt 26, 3) := by decide +kernel
theorem dX11_keepAct_9 : decode cX11_keepAct 9 = .ok (.aload_n 0, 1) := by decide +kernel
theorem dX11_keepAct_10 : decode cX11_keepAct 10 = .ok (.aload_n 0, 1) := by decide +kernel
theorem dX11_keepAct_11 : decode cX11_keepAct 11 = .ok (.getfield 53, 3) := by decide +kernel
theorem dX11_keepAct_14 : decode cX11_keepAct 14 = .ok (.iconst 1, 1) := by decide +kernel
theorem dX11_keepAct_15 : decode cX11_keepAct 15 = .ok (.iadd, 1) := by decide +kernel
theorem dX11_keepAct_16 : decode cX11_keepAct 16 = .ok (.bipush 24, 2) := by decide +kernel
theorem dX11_keepAct_18 : decode cX11_keepAct 18 = .ok (.irem, 1) := by decide +kernel
theorem dX11_keepAct_19 : decode cX11_keepAct 19 = .ok (.putfield 53, 3) := by decide +kernel
theorem dX11_keepAct_22 : decode cX11_keepAct 22 = .ok (.aload_n 0, 1) := by decide +kernel
theorem dX11_keepAct_23 : decode cX11_keepAct 23 = .ok (.dup, 1) := by decide +kernel
theorem dX11_keepAct_24 : decode cX11_keepAct 24 = .ok (.getfield 57, 3) := by decide +kernel
theorem dX11_keepAct_27 : decode cX11_keepAct 27 = .ok (.iconst 1, 1) := by decide +kernel
theorem dX11_keepAct_28 : decode cX11_keepAct 28 = .ok (.isub, 1) := by decide +kernel
theorem dX11_keepAct_29 : decode cX11_keepAct 29 = .ok (.putfield 57, 3) := by decide +kernel
theorem dX11_keepAct_32 : decode cX11_keepAct 32 = .ok (.aload_n 0, 1) := by decide +kernel
theorem dX11_keepAct_33 : decode cX11_keepAct 33 = .ok (.getfield 36, 3) := by decide +kernel
theorem dX11_keepAct_36 : decode cX11_keepAct 36 = .ok (.aload_n 0, 1) := by decide +kernel
theorem dX11_keepAct_37 : decode cX11_keepAct 37 = .ok (.getfield 53, 3) := by decide +kernel
theorem dX11_keepAct_40 : decode cX11_keepAct 40 = .ok (.aload_n 0, 1) := by decide +kernel
theorem dX11_keepAct_41 : decode cX11_keepAct 41 = .ok (.getfield 57, 3) := by decide +kernel
theorem dX11_keepAct_44 : decode cX11_keepAct 44 = .ok (.iadd, 1) := by decide +kernel
theorem dX11_keepAct_45 : decode cX11_keepAct 45 = .ok (.bipush 24, 2) := by decide +kernel
theorem dX11_keepAct_47 : decode cX11_keepAct 47 = .ok (.irem, 1) := by decide +kernel
theorem dX11_keepAct_48 : decode cX11_keepAct 48 = .ok (.aaload, 1) := by decide +kernel
theorem dX11_keepAct_49 : decode cX11_keepAct 49 = .ok (.aload_n 0, 1) := by decide +kernel
theorem dX11_keepAct_50 : decode cX11_keepAct 50 = .ok (.getfield 32, 3) := by decide +kernel
theorem dX11_keepAct_53 : decode cX11_keepAct 53 = .ok (.invokevirtual 156, 3) := by decide +kernel
theorem dX11_keepAct_56 : decode cX11_keepAct 56 = .ok (.aload_n 0, 1) := by decide +kernel
theorem dX11_keepAct_57 : decode cX11_keepAct 57 = .ok (.dup, 1) := by decide +kernel
theorem dX11_keepAct_58 : decode cX11_keepAct 58 = .ok (.getfield 57, 3) := by decide +kernel
theorem dX11_keepAct_61 : decode cX11_keepAct 61 = .ok (.iconst 1, 1) := by decide +kernel
theorem dX11_keepAct_62 : decode cX11_keepAct 62 = .ok (.iadd, 1) := by decide +kernel
theorem dX11_keepAct_63 : decode cX11_keepAct 63 = .ok (.putfield 57, 3) := by decide +kernel
theorem dX11_keepAct_66 : decode cX11_keepAct 66 = .ok (.return_, 1) := by decide +kernel
theorem dX11_best_0 : decode cX11_best 0 = .ok (.aload_n 0, 1) := by decide +kernel
theorem dX11_best_1 : decode cX11_best 1 = .ok (.getfield 49, 3) := by decide +kernel
theorem dX11_best_4 : decode cX11_best 4 = .ok (.astore_n 3, 1) := by decide +kernel
theorem dX11_best_5 : decode cX11_best 5 = .ok (.aload_n 0, 1) := by decide +kernel
theorem dX11_best_6 : decode cX11_best 6 = .ok (.iload_n 1, 1) := by decide +kernel
theorem dX11_best_7 : decode cX11_best 7 = .ok (.invokevirtual 135, 3) := by decide +kernel
theorem dX11_best_10 : decode cX11_best 10 = .ok (.astore 4, 2) := by decide +kernel
theorem dX11_best_12 : decode cX11_best 12 = .ok (.aload_n 3, 1) := by decide +kernel
theorem dX11_best_13 : decode cX11_best 13 = .ok (.ifnull 17, 3) := by decide +kernel
theorem dX11_best_16 : decode cX11_best 16 = .ok (.aload 4, 2) := by decide +kernel
theorem dX11_best_18 : decode cX11_best 18 = .ok (.ifnull 12, 3) := by decide +kernel
theorem dX11_best_21 : decode cX11_best 21 = .ok (.iload_n 2, 1) := by decide +kernel
theorem dX11_best_22 : decode cX11_best 22 = .ok (.ifCond .lt 8, 3) := by decide +kernel
theorem dX11_best_25 : decode cX11_best 25 = .ok (.iload_n 2, 1) := by decide +kernel
theorem dX11_best_26 : decode cX11_best 26 = .ok (.iconst 1, 1) := by decide +kernel
theorem dX11_best_27 : decode cX11_best 27 = .ok (.if_icmp .le 6, 3) := by decide +kernel
theorem dX11_best_30 : decode cX11_best 30 = .ok (.ldc 71, 2) := by decide +kernel
theorem dX11_best_32 : decode cX11_best 32 = .ok (.ireturn, 1) := by decide +kernel
theorem dX11_best_33 : decode cX11_best 33 = .ok (.aload_n 3, 1) := by decide +kernel
theorem dX11_best_34 : decode cX11_best 34 = .ok (.aload 4, 2) := by decide +kernel
theorem dX11_best_36 : decode cX11_best 36 = .ok (.aload_n 0, 1) := by decide +kernel
theorem dX11_best_37 : decode cX11_best 37 = .ok (.getfield 32, 3) := by decide +kernel
theorem dX11_best_40 : decode cX11_best 40 = .ok (.invokevirtual 202, 3) := by decide +kernel
theorem dX11_best_43 : decode cX11_best 43 = .ok (.istore 5, 2) := by decide +kernel
theorem dX11_best_45 : decode cX11_best 45 = .ok (.iload_n 2, 1) := by decide +kernel
theorem dX11_best_46 : decode cX11_best 46 = .ok (.ifCond .eq 10, 3) := by decide +kernel
theorem dX11_best_49 : decode cX11_best 49 = .ok (.iload 5, 2) := by decide +kernel
theorem dX11_best_51 : decode cX11_best 51 = .ok (.ldc 205, 2) := by decide +kernel
theorem dX11_best_53 : decode cX11_best 53 = .ok (.if_icmp .ne 8, 3) := by decide +kernel
theorem dX11_best_56 : decode cX11_best 56 = .ok (.iload 5, 2) := by decide +kernel
theorem dX11_best_58 : decode cX11_best 58 = .ok (.goto 15, 3) := by decide +kernel
theorem dX11_best_61 : decode cX11_best 61 = .ok (.aload_n 3, 1) := by decide +kernel
theorem dX11_best_62 : decode cX11_best 62 = .ok (.aload 4, 2) := by decide +kernel
theorem dX11_best_64 : decode cX11_best 64 = .ok (.iload 5, 2) := by decide +kernel
theorem dX11_best_66 : decode cX11_best 66 = .ok (.aload_n 0, 1) := by decide +kernel
theorem dX11_best_67 : decode cX11_best 67 = .ok (.getfield 32, 3) := by decide +kernel
theorem dX11_best_70 : decode cX11_best 70 = .ok (.invokevirtual 206, 3) := by decide +kernel
theorem dX11_best_73 : decode cX11_best 73 = .ok (.ireturn, 1) := by decide +kernel
theorem dX11_answer_0 : decode cX11_answer 0 = .ok (.aload_n 0, 1) := by decide +kernel
theorem dX11_answer_1 : decode cX11_answer 1 = .ok (.getfield 49, 3) := by decide +kernel
theorem dX11_answer_4 : decode cX11_answer 4 = .ok (.astore 4, 2) := by decide +kernel
theorem dX11_answer_6 : decode cX11_answer 6 = .ok (.aload_n 0, 1) := by decide +kernel
theorem dX11_answer_7 : decode cX11_answer 7 = .ok (.iload_n 1, 1) := by decide +kernel
theorem dX11_answer_8 : decode cX11_answer 8 = .ok (.invokevirtual 135, 3) := by decide +kernel
theorem dX11_answer_11 : decode cX11_answer 11 = .ok (.astore 5, 2) := by decide +kernel
theorem dX11_answer_13 : decode cX11_answer 13 = .ok (.aload_n 0, 1) := by decide +kernel
theorem dX11_answer_14 : decode cX11_answer 14 = .ok (.iload_n 2, 1) := by decide +kernel
theorem dX11_answer_15 : decode cX11_answer 15 = .ok (.invokevirtual 135, 3) := by decide +kernel
theorem dX11_answer_18 : decode cX11_answer 18 = .ok (.astore 6, 2) := by decide +kernel
theorem dX11_answer_20 : decode cX11_answer 20 = .ok (.aload 4, 2) := by decide +kernel
theorem dX11_answer_22 : decode cX11_answer 22 = .ok (.ifnull 27, 3) := by decide +kernel
theorem dX11_answer_25 : decode cX11_answer 25 = .ok (.aload 5, 2) := by decide +kernel
theorem dX11_answer_27 : decode cX11_answer 27 = .ok (.ifnull 22, 3) := by decide +kernel
theorem dX11_answer_30 : decode cX11_answer 30 = .ok (.aload 6, 2) := by decide +kernel
theorem dX11_answer_32 : decode cX11_answer 32 = .ok (.ifnull 17, 3) := by decide +kernel
theorem dX11_answer_35 : decode cX11_answer 35 = .ok (.iload_n 1, 1) := by decide +kernel
theorem dX11_answer_36 : decode cX11_answer 36 = .ok (.iload_n 2, 1) := by decide +kernel
theorem dX11_answer_37 : decode cX11_answer 37 = .ok (.if_icmp .eq 12, 3) := by decide +kernel
theorem dX11_answer_40 : decode cX11_answer 40 = .ok (.iload_n 3, 1) := by decide +kernel
theorem dX11_answer_41 : decode cX11_answer 41 = .ok (.ifCond .lt 8, 3) := by decide +kernel
theorem dX11_answer_44 : decode cX11_answer 44 = .ok (.iload_n 3, 1) := by decide +kernel
theorem dX11_answer_45 : decode cX11_answer 45 = .ok (.iconst 1, 1) := by decide +kernel
theorem dX11_answer_46 : decode cX11_answer 46 = .ok (.if_icmp .le 6, 3) := by decide +kernel
theorem dX11_answer_49 : decode cX11_answer 49 = .ok (.ldc 71, 2) := by decide +kernel
theorem dX11_answer_51 : decode cX11_answer 51 = .ok (.ireturn, 1) := by decide +kernel
theorem dX11_answer_52 : decode cX11_answer 52 = .ok (.aload 4, 2) := by decide +kernel
theorem dX11_answer_54 : decode cX11_answer 54 = .ok (.aload 5, 2) := by decide +kernel
theorem dX11_answer_56 : decode cX11_answer 56 = .ok (.aload 4, 2) := by decide +kernel
theorem dX11_answer_58 : decode cX11_answer 58 = .ok (.aload 5, 2) := by decide +kernel
theorem dX11_answer_60 : decode cX11_answer 60 = .ok (.aload_n 0, 1) := by decide +kernel
theorem dX11_answer_61 : decode cX11_answer 61 = .ok (.getfield 32, 3) := by decide +kernel
theorem dX11_answer_64 : decode cX11_answer 64 = .ok (.invokevirtual 202, 3) := by decide +kernel
theorem dX11_answer_67 : decode cX11_answer 67 = .ok (.aload_n 0, 1) := by decide +kernel
theorem dX11_answer_68 : decode cX11_answer 68 = .ok (.getfield 32, 3) := by decide +kernel
theorem dX11_answer_71 : decode cX11_answer 71 = .ok (.invokevirtual 210, 3) := by decide +kernel
theorem dX11_answer_74 : decode cX11_answer 74 = .ok (.astore 7, 2) := by decide +kernel
theorem dX11_answer_76 : decode cX11_answer 76 = .ok (.aload 4, 2) := by decide +kernel
theorem dX11_answer_78 : decode cX11_answer 78 = .ok (.aload 6, 2) := by decide +kernel
theorem dX11_answer_80 : decode cX11_answer 80 = .ok (.aload 7, 2) := by decide +kernel
theorem dX11_answer_82 : decode cX11_answer 82 = .ok (.invokevirtual 202, 3) := by decide +kernel
theorem dX11_answer_85 : decode cX11_answer 85 = .ok (.istore 8, 2) := by decide +kernel
theorem dX11_answer_87 : decode cX11_answer 87 = .ok (.iload_n 3, 1) := by decide +kernel
theorem dX11_answer_88 : decode cX11_answer 88 = .ok (.ifCond .eq 10, 3) := by decide +kernel
theorem dX11_answer_91 : decode cX11_answer 91 = .ok (.iload 8, 2) := by decide +kernel
theorem dX11_answer_93 : decode cX11_answer 93 = .ok (.ldc 205, 2) := by decide +kernel
theorem dX11_answer_95 : decode cX11_answer 95 = .ok (.if_icmp .ne 8, 3) := by decide +kernel
theorem dX11_answer_98 : decode cX11_answer 98 = .ok (.iload 8, 2) := by decide +kernel
theorem dX11_answer_100 : decode cX11_answer 100 = .ok (.goto 14, 3) := by decide +kernel
theorem dX11_answer_103 : decode cX11_answer 103 = .ok (.aload 4, 2) := by decide +kernel
theorem dX11_answer_105 : decode cX11_answer 105 = .ok (.aload 6, 2) := by decide +kernel
theorem dX11_answer_107 : decode cX11_answer 107 = .ok (.iload 8, 2) := by decide +kernel
theorem dX11_answer_109 : decode cX11_answer 109 = .ok (.aload 7, 2) := by decide +kernel
theorem dX11_answer_111 : decode cX11_answer 111 = .ok (.invokevirtual 206, 3) := by decide +kernel
theorem dX11_answer_114 : decode cX11_answer 114 = .ok (.ireturn, 1) := by decide +kernel
theorem dX11_game_0 : decode cX11_game 0 = .ok (.aload_n 0, 1) := by decide +kernel
theorem dX11_game_1 : decode cX11_game 1 = .ok (.getfield 49, 3) := by decide +kernel
theorem dX11_game_4 : decode cX11_game 4 = .ok (.astore 4, 2) := by decide +kernel
theorem dX11_game_6 : decode cX11_game 6 = .ok (.aload_n 0, 1) := by decide +kernel
theorem dX11_game_7 : decode cX11_game 7 = .ok (.iload_n 1, 1) := by decide +kernel
theorem dX11_game_8 : decode cX11_game 8 = .ok (.invokevirtual 135, 3) := by decide +kernel
theorem dX11_game_11 : decode cX11_game 11 = .ok (.astore 5, 2) := by decide +kernel
theorem dX11_game_13 : decode cX11_game 13 = .ok (.aload_n 0, 1) := by decide +kernel
theorem dX11_game_14 : decode cX11_game 14 = .ok (.iload_n 2, 1) := by decide +kernel
theorem dX11_game_15 : decode cX11_game 15 = .ok (.invokevirtual 135, 3) := by decide +kernel
theorem dX11_game_18 : decode cX11_game 18 = .ok (.astore 6, 2) := by decide +kernel
theorem dX11_game_20 : decode cX11_game 20 = .ok (.aload 4, 2) := by decide +kernel
theorem dX11_game_22 : decode cX11_game 22 = .ok (.ifnull 27, 3) := by decide +kernel
theorem dX11_game_25 : decode cX11_game 25 = .ok (.aload 5, 2) := by decide +kernel
theorem dX11_game_27 : decode cX11_game 27 = .ok (.ifnull 22, 3) := by decide +kernel
theorem dX11_game_30 : decode cX11_game 30 = .ok (.aload 6, 2) := by decide +kernel
theorem dX11_game_32 : decode cX11_game 32 = .ok (.ifnull 17, 3) := by decide +kernel
theorem dX11_game_35 : decode cX11_game 35 = .ok (.iload_n 1, 1) := by decide +kernel
theorem dX11_game_36 : decode cX11_game 36 = .ok (.iload_n 2, 1) := by decide +kernel
theorem dX11_game_37 : decode cX11_game 37 = .ok (.if_icmp .eq 12, 3) := by decide +kernel
theorem dX11_game_40 : decode cX11_game 40 = .ok (.iload_n 3, 1) := by decide +kernel
theorem dX11_game_41 : decode cX11_game 41 = .ok (.ifCond .lt 8, 3) := by decide +kernel
theorem dX11_game_44 : decode cX11_game 44 = .ok (.iload_n 3, 1) := by decide +kernel
theorem dX11_game_45 : decode cX11_game 45 = .ok (.iconst 1, 1) := by decide +kernel
theorem dX11_game_46 : decode cX11_game 46 = .ok (.if_icmp .le 6, 3) := by decide +kernel
theorem dX11_game_49 : decode cX11_game 49 = .ok (.ldc 71, 2) := by decide +kernel
theorem dX11_game_51 : decode cX11_game 51 = .ok (.ireturn, 1) := by decide +kernel
theorem dX11_game_52 : decode cX11_game 52 = .ok (.iconst (-1), 1) := by decide +kernel
theorem dX11_game_53 : decode cX11_game 53 = .ok (.istore 7, 2) := by decide +kernel
theorem dX11_game_55 : decode cX11_game 55 = .ok (.aload 4, 2) := by decide +kernel
theorem dX11_game_57 : decode cX11_game 57 = .ok (.aload 5, 2) := by decide +kernel
theorem dX11_game_59 : decode cX11_game 59 = .ok (.iload 7, 2) := by decide +kernel
theorem dX11_game_61 : decode cX11_game 61 = .ok (.aload 6, 2) := by decide +kernel
theorem dX11_game_63 : decode cX11_game 63 = .ok (.aload_n 0, 1) := by decide +kernel
theorem dX11_game_64 : decode cX11_game 64 = .ok (.getfield 32, 3) := by decide +kernel
theorem dX11_game_67 : decode cX11_game 67 = .ok (.invokevirtual 214, 3) := by decide +kernel
theorem dX11_game_70 : decode cX11_game 70 = .ok (.istore 8, 2) := by decide +kernel
theorem dX11_game_72 : decode cX11_game 72 = .ok (.iconst 0, 1) := by decide +kernel
theorem dX11_game_73 : decode cX11_game 73 = .ok (.istore 9, 2) := by decide +kernel
theorem dX11_game_75 : decode cX11_game 75 = .ok (.iload 9, 2) := by decide +kernel
theorem dX11_game_77 : decode cX11_game 77 = .ok (.bipush 48, 2) := by decide +kernel
theorem dX11_game_79 : decode cX11_game 79 = .ok (.if_icmp .ge 57, 3) := by decide +kernel
theorem dX11_game_82 : decode cX11_game 82 = .ok (.aload 4, 2) := by decide +kernel
theorem dX11_game_84 : decode cX11_game 84 = .ok (.aload 5, 2) := by decide +kernel
theorem dX11_game_86 : decode cX11_game 86 = .ok (.iload 9, 2) := by decide +kernel
theorem dX11_game_88 : decode cX11_game 88 = .ok (.aload_n 0, 1) := by decide +kernel
theorem dX11_game_89 : decode cX11_game 89 = .ok (.getfield 32, 3) := by decide +kernel
theorem dX11_game_92 : decode cX11_game 92 = .ok (.invokevirtual 143, 3) := by decide +kernel
theorem dX11_game_95 : decode cX11_game 95 = .ok (.ifCond .eq 35, 3) := by decide +kernel
theorem dX11_game_98 : decode cX11_game 98 = .ok (.aload 4, 2) := by decide +kernel
theorem dX11_game_100 : decode cX11_game 100 = .ok (.aload 5, 2) := by decide +kernel
theorem dX11_game_102 : decode cX11_game 102 = .ok (.iload 9, 2) := by decide +kernel
theorem dX11_game_104 : decode cX11_game 104 = .ok (.aload 6, 2) := by decide +kernel
theorem dX11_game_106 : decode cX11_game 106 = .ok (.aload_n 0, 1) := by decide +kernel
theorem dX11_game_107 : decode cX11_game 107 = .ok (.getfield 32, 3) := by decide +kernel
theorem dX11_game_110 : decode cX11_game 110 = .ok (.invokevirtual 214, 3) := by decide +kernel
theorem dX11_game_113 : decode cX11_game 113 = .ok (.istore 10, 2) := by decide +kernel
theorem dX11_game_115 : decode cX11_game 115 = .ok (.iload 10, 2) := by decide +kernel
theorem dX11_game_117 : decode cX11_game 117 = .ok (.iload 8, 2) := by decide +kernel
theorem dX11_game_119 : decode cX11_game 119 = .ok (.if_icmp .le 11, 3) := by decide +kernel
theorem dX11_game_122 : decode cX11_game 122 = .ok (.iload 9, 2) := by decide +kernel
theorem dX11_game_124 : decode cX11_game 124 = .ok (.istore 7, 2) := by decide +kernel
theorem dX11_game_126 : decode cX11_game 126 = .ok (.iload 10, 2) := by decide +kernel
theorem dX11_game_128 : decode cX11_game 128 = .ok (.istore 8, 2) := by decide +kernel
theorem dX11_game_130 : decode cX11_game 130 = .ok (.iinc 9 1, 3) := by decide +kernel
theorem dX11_game_133 : decode cX11_game 133 = .ok (.goto (-58), 3) := by decide +kernel
theorem dX11_game_136 : decode cX11_game 136 = .ok (.iload_n 3, 1) := by decide +kernel
theorem dX11_game_137 : decode cX11_game 137 = .ok (.ifCond .ne 8, 3) := by decide +kernel
theorem dX11_game_140 : decode cX11_game 140 = .ok (.iload 7, 2) := by decide +kernel
theorem dX11_game_142 : decode cX11_game 142 = .ok (.goto 5, 3) := by decide +kernel
theorem dX11_game_145 : decode cX11_game 145 = .ok (.iload 8, 2) := by decide +kernel
theorem dX11_game_147 : decode cX11_game 147 = .ok (.ireturn, 1) := by decide +kernel
theorem dX11_held_0 : decode cX11_held 0 = .ok (.aload_n 0, 1) := by decide +kernel
theorem dX11_held_1 : decode cX11_held 1 = .ok (.getfield 49, 3) := by decide +kernel
theorem dX11_held_4 : decode cX11_held 4 = .ok (.astore 4, 2) := by decide +kernel
theorem dX11_held_6 : decode cX11_held 6 = .ok (.aload 4, 2) := by decide +kernel
theorem dX11_held_8 : decode cX11_held 8 = .ok (.ifnonnull 6, 3) := by decide +kernel
theorem dX11_held_11 : decode cX11_held 11 = .ok (.ldc 147, 2) := by decide +kernel
theorem dX11_held_13 : decode cX11_held 13 = .ok (.ireturn, 1) := by decide +kernel
theorem dX11_held_14 : decode cX11_held 14 = .ok (.iload_n 1, 1) := by decide +kernel
theorem dX11_held_15 : decode cX11_held 15 = .ok (.invokestatic 188, 3) := by decide +kernel
theorem dX11_held_18 : decode cX11_held 18 = .ok (.ifCond .eq 19, 3) := by decide +kernel
theorem dX11_held_21 : decode cX11_held 21 = .ok (.iload_n 2, 1) := by decide +kernel
theorem dX11_held_22 : decode cX11_held 22 = .ok (.ifCond .lt 15, 3) := by decide +kernel
theorem dX11_held_25 : decode cX11_held 25 = .ok (.iload_n 2, 1) := by decide +kernel
theorem dX11_held_26 : decode cX11_held 26 = .ok (.sipush 999, 3) := by decide +kernel
theorem dX11_held_29 : decode cX11_held 29 = .ok (.if_icmp .gt 8, 3) := by decide +kernel
theorem dX11_held_32 : decode cX11_held 32 = .ok (.iload_n 3, 1) := by decide +kernel
theorem dX11_held_33 : decode cX11_held 33 = .ok (.iconst (-1), 1) := by decide +kernel
theorem dX11_held_34 : decode cX11_held 34 = .ok (.if_icmp .ge 6, 3) := by decide +kernel
theorem dX11_held_37 : decode cX11_held 37 = .ok (.ldc 71, 2) := by decide +kernel
theorem dX11_held_39 : decode cX11_held 39 = .ok (.ireturn, 1) := by decide +kernel
theorem dX11_held_40 : decode cX11_held 40 = .ok (.aload 4, 2) := by decide +kernel
theorem dX11_held_42 : decode cX11_held 42 = .ok (.iload_n 1, 1) := by decide +kernel
theorem dX11_held_43 : decode cX11_held 43 = .ok (.iload_n 2, 1) := by decide +kernel
theorem dX11_held_44 : decode cX11_held 44 = .ok (.iload_n 3, 1) := by decide +kernel
theorem dX11_held_45 : decode cX11_held 45 = .ok (.aload_n 0, 1) := by decide +kernel
theorem dX11_held_46 : decode cX11_held 46 = .ok (.getfield 32, 3) := by decide +kernel
theorem dX11_held_49 : decode cX11_held 49 = .ok (.invokevirtual 218, 3) := by decide +kernel
theorem dX11_held_52 : decode cX11_held 52 = .ok (.ireturn, 1) := by decide +kernel
theorem dX11_went_0 : decode cX11_went 0 = .ok (.aload_n 0, 1) := by decide +kernel
theorem dX11_went_1 : decode cX11_went 1 = .ok (.getfield 49, 3) := by decide +kernel
theorem dX11_went_4 : decode cX11_went 4 = .ok (.astore 4, 2) := by decide +kernel
theorem dX11_went_6 : decode cX11_went 6 = .ok (.aload 4, 2) := by decide +kernel
theorem dX11_went_8 : decode cX11_went 8 = .ok (.ifnonnull 6, 3) := by decide +kernel
theorem dX11_went_11 : decode cX11_went 11 = .ok (.ldc 147, 2) := by decide +kernel
theorem dX11_went_13 : decode cX11_went 13 = .ok (.ireturn, 1) := by decide +kernel
theorem dX11_went_14 : decode cX11_went 14 = .ok (.aload_n 0, 1) := by decide +kernel
theorem dX11_went_15 : decode cX11_went 15 = .ok (.iload_n 1, 1) := by decide +kernel
theorem dX11_went_16 : decode cX11_went 16 = .ok (.invokevirtual 67, 3) := by decide +kernel
theorem dX11_went_19 : decode cX11_went 19 = .ok (.astore 5, 2) := by decide +kernel
theorem dX11_went_21 : decode cX11_went 21 = .ok (.aload 5, 2) := by decide +kernel
theorem dX11_went_23 : decode cX11_went 23 = .ok (.ifnull 12, 3) := by decide +kernel
theorem dX11_went_26 : decode cX11_went 26 = .ok (.iload_n 3, 1) := by decide +kernel
theorem dX11_went_27 : decode cX11_went 27 = .ok (.ifCond .lt 8, 3) := by decide +kernel
theorem dX11_went_30 : decode cX11_went 30 = .ok (.iload_n 3, 1) := by decide +kernel
theorem dX11_went_31 : decode cX11_went 31 = .ok (.iconst 2, 1) := by decide +kernel
theorem dX11_went_32 : decode cX11_went 32 = .ok (.if_icmp .le 6, 3) := by decide +kernel
theorem dX11_went_35 : decode cX11_went 35 = .ok (.ldc 71, 2) := by decide +kernel
theorem dX11_went_37 : decode cX11_went 37 = .ok (.ireturn, 1) := by decide +kernel
theorem dX11_went_38 : decode cX11_went 38 = .ok (.aload 5, 2) := by decide +kernel
theorem dX11_went_40 : decode cX11_went 40 = .ok (.invokevirtual 83, 3) := by decide +kernel
theorem dX11_went_43 : decode cX11_went 43 = .ok (.ifCond .eq 9, 3) := by decide +kernel
theorem dX11_went_46 : decode cX11_went 46 = .ok (.aload_n 0, 1) := by decide +kernel
theorem dX11_went_47 : decode cX11_went 47 = .ok (.iconst 1, 1) := by decide +kernel
theorem dX11_went_48 : decode cX11_went 48 = .ok (.invokevirtual 72, 3) := by decide +kernel
theorem dX11_went_51 : decode cX11_went 51 = .ok (.ireturn, 1) := by decide +kernel
theorem dX11_went_52 : decode cX11_went 52 = .ok (.aload 5, 2) := by decide +kernel
theorem dX11_went_54 : decode cX11_went 54 = .ok (.iload_n 2, 1) := by decide +kernel
theorem dX11_went_55 : decode cX11_went 55 = .ok (.bipush 8, 2) := by decide +kernel
theorem dX11_went_57 : decode cX11_went 57 = .ok (.invokevirtual 87, 3) := by decide +kernel
theorem dX11_went_60 : decode cX11_went 60 = .ok (.ifCond .ne 9, 3) := by decide +kernel
theorem dX11_went_63 : decode cX11_went 63 = .ok (.aload_n 0, 1) := by decide +kernel
theorem dX11_went_64 : decode cX11_went 64 = .ok (.iconst 2, 1) := by decide +kernel
theorem dX11_went_65 : decode cX11_went 65 = .ok (.invokevirtual 72, 3) := by decide +kernel
theorem dX11_went_68 : decode cX11_went 68 = .ok (.ireturn, 1) := by decide +kernel
theorem dX11_went_69 : decode cX11_went 69 = .ok (.aload 5, 2) := by decide +kernel
theorem dX11_went_71 : decode cX11_went 71 = .ok (.iload_n 2, 1) := by decide +kernel
theorem dX11_went_72 : decode cX11_went 72 = .ok (.invokevirtual 222, 3) := by decide +kernel
theorem dX11_went_75 : decode cX11_went 75 = .ok (.ifCond .ne 6, 3) := by decide +kernel
theorem dX11_went_78 : decode cX11_went 78 = .ok (.ldc 71, 2) := by decide +kernel
theorem dX11_went_80 : decode cX11_went 80 = .ok (.ireturn, 1) := by decide +kernel
theorem dX11_went_81 : decode cX11_went 81 = .ok (.iload_n 3, 1) := by decide +kernel
theorem dX11_went_82 : decode cX11_went 82 = .ok (.iconst 2, 1) := by decide +kernel
theorem dX11_went_83 : decode cX11_went 83 = .ok (.if_icmp .ne 26, 3) := by decide +kernel
theorem dX11_went_86 : decode cX11_went 86 = .ok (.aload_n 0, 1) := by decide +kernel
theorem dX11_went_87 : decode cX11_went 87 = .ok (.aload_n 0, 1) := by decide +kernel
theorem dX11_went_88 : decode cX11_went 88 = .ok (.getfield 32, 3) := by decide +kernel
theorem dX11_went_91 : decode cX11_went 91 = .ok (.aload 5, 2) := by decide +kernel
theorem dX11_went_93 : decode cX11_went 93 = .ok (.iload_n 2, 1) := by decide +kernel
theorem dX11_went_94 : decode cX11_went 94 = .ok (.invokevirtual 225, 3) := by decide +kernel
theorem dX11_went_97 : decode cX11_went 97 = .ok (.ifCond .eq 7, 3) := by decide +kernel
theorem dX11_went_100 : decode cX11_went 100 = .ok (.iconst 1, 1) := by decide +kernel
theorem dX11_went_101 : decode cX11_went 101 = .ok (.goto 4, 3) := by decide +kernel
theorem dX11_went_104 : decode cX11_went 104 = .ok (.iconst 0, 1) := by decide +kernel
theorem dX11_went_105 : decode cX11_went 105 = .ok (.invokevirtual 80, 3) := by decide +kernel
theorem dX11_went_108 : decode cX11_went 108 = .ok (.ireturn, 1) := by decide +kernel
theorem dX11_went_109 : decode cX11_went 109 = .ok (.aload_n 0, 1) := by decide +kernel
theorem dX11_went_110 : decode cX11_went 110 = .ok (.aload 4, 2) := by decide +kernel
theorem dX11_went_112 : decode cX11_went 112 = .ok (.aload 5, 2) := by decide +kernel
theorem dX11_went_114 : decode cX11_went 114 = .ok (.iload_n 2, 1) := by decide +kernel
theorem dX11_went_115 : decode cX11_went 115 = .ok (.iload_n 3, 1) := by decide +kernel
theorem dX11_went_116 : decode cX11_went 116 = .ok (.iconst 1, 1) := by decide +kernel
theorem dX11_went_117 : decode cX11_went 117 = .ok (.if_icmp .ne 7, 3) := by decide +kernel
theorem dX11_went_120 : decode cX11_went 120 = .ok (.iconst 1, 1) := by decide +kernel
theorem dX11_went_121 : decode cX11_went 121 = .ok (.goto 4, 3) := by decide +kernel
theorem dX11_went_124 : decode cX11_went 124 = .ok (.iconst 0, 1) := by decide +kernel
theorem dX11_went_125 : decode cX11_went 125 = .ok (.aload_n 0, 1) := by decide +kernel
theorem dX11_went_126 : decode cX11_went 126 = .ok (.getfield 32, 3) := by decide +kernel
theorem dX11_went_129 : decode cX11_went 129 = .ok (.invokevirtual 229, 3) := by decide +kernel
theorem dX11_went_132 : decode cX11_went 132 = .ok (.invokevirtual 80, 3) := by decide +kernel
theorem dX11_went_135 : decode cX11_went 135 = .ok (.ireturn, 1) := by decide +kernel
theorem dX11_image_0 : decode cX11_image 0 = .ok (.iload_n 1, 1) := by decide +kernel
theorem dX11_image_1 : decode cX11_image 1 = .ok (.ifCond .lt 8, 3) := by decide +kernel
theorem dX11_image_4 : decode cX11_image 4 = .ok (.iload_n 1, 1) := by decide +kernel
theorem dX11_image_5 : decode cX11_image 5 = .ok (.iconst 2, 1) := by decide +kernel
theorem dX11_image_6 : decode cX11_image 6 = .ok (.if_icmp .lt 6, 3) := by decide +kernel
theorem dX11_image_9 : decode cX11_image 9 = .ok (.ldc 71, 2) := by decide +kernel
theorem dX11_image_11 : decode cX11_image 11 = .ok (.ireturn, 1) := by decide +kernel
theorem dX11_image_12 : decode cX11_image 12 = .ok (.aload_n 0, 1) := by decide +kernel
theorem dX11_image_13 : decode cX11_image 13 = .ok (.getfield 49, 3) := by decide +kernel
theorem dX11_image_16 : decode cX11_image 16 = .ok (.ifnonnull 6, 3) := by decide +kernel
theorem dX11_image_19 : decode cX11_image 19 = .ok (.ldc 147, 2) := by decide +kernel
theorem dX11_image_21 : decode cX11_image 21 = .ok (.ireturn, 1) := by decide +kernel
theorem dX11_image_22 : decode cX11_image 22 = .ok (.aload_n 0, 1) := by decide +kernel
theorem dX11_image_23 : decode cX11_image 23 = .ok (.getfield 45, 3) := by decide +kernel
theorem dX11_image_26 : decode cX11_image 26 = .ok (.iload_n 1, 1) := by decide +kernel
theorem dX11_image_27 : decode cX11_image 27 = .ok (.aload_n 0, 1) := by decide +kernel
theorem dX11_image_28 : decode cX11_image 28 = .ok (.getfield 49, 3) := by decide +kernel
theorem dX11_image_31 : decode cX11_image 31 = .ok (.aastore, 1) := by decide +kernel
theorem dX11_image_32 : decode cX11_image 32 = .ok (.aload_n 0, 1) := by decide +kernel
theorem dX11_image_33 : decode cX11_image 33 = .ok (.getfield 40, 3) := by decide +kernel
theorem dX11_image_36 : decode cX11_image 36 = .ok (.iload_n 1, 1) := by decide +kernel
theorem dX11_image_37 : decode cX11_image 37 = .ok (.aaload, 1) := by decide +kernel
theorem dX11_image_38 : decode cX11_image 38 = .ok (.aload_n 0, 1) := by decide +kernel
theorem dX11_image_39 : decode cX11_image 39 = .ok (.getfield 32, 3) := by decide +kernel
theorem dX11_image_42 : decode cX11_image 42 = .ok (.invokevirtual 156, 3) := by decide +kernel
theorem dX11_image_45 : decode cX11_image 45 = .ok (.iconst 1, 1) := by decide +kernel
theorem dX11_image_46 : decode cX11_image 46 = .ok (.ireturn, 1) := by decide +kernel
theorem dX11_restore_0 : decode cX11_restore 0 = .ok (.iload_n 1, 1) := by decide +kernel
theorem dX11_restore_1 : decode cX11_restore 1 = .ok (.ifCond .lt 8, 3) := by decide +kernel
theorem dX11_restore_4 : decode cX11_restore 4 = .ok (.iload_n 1, 1) := by decide +kernel
theorem dX11_restore_5 : decode cX11_restore 5 = .ok (.iconst 2, 1) := by decide +kernel
theorem dX11_restore_6 : decode cX11_restore 6 = .ok (.if_icmp .lt 6, 3) := by decide +kernel
theorem dX11_restore_9 : decode cX11_restore 9 = .ok (.ldc 71, 2) := by decide +kernel
theorem dX11_restore_11 : decode cX11_restore 11 = .ok (.ireturn, 1) := by decide +kernel
theorem dX11_restore_12 : decode cX11_restore 12 = .ok (.aload_n 0, 1) := by decide +kernel
theorem dX11_restore_13 : decode cX11_restore 13 = .ok (.getfield 45, 3) := by decide +kernel
theorem dX11_restore_16 : decode cX11_restore 16 = .ok (.iload_n 1, 1) := by decide +kernel
theorem dX11_restore_17 : decode cX11_restore 17 = .ok (.aaload, 1) := by decide +kernel
theorem dX11_restore_18 : decode cX11_restore 18 = .ok (.ifnonnull 6, 3) := by decide +kernel
theorem dX11_restore_21 : decode cX11_restore 21 = .ok (.ldc 147, 2) := by decide +kernel
theorem dX11_restore_23 : decode cX11_restore 23 = .ok (.ireturn, 1) := by decide +kernel
theorem dX11_restore_24 : decode cX11_restore 24 = .ok (.aload_n 0, 1) := by decide +kernel
theorem dX11_restore_25 : decode cX11_restore 25 = .ok (.aload_n 0, 1) := by decide +kernel
theorem dX11_restore_26 : decode cX11_restore 26 = .ok (.getfield 45, 3) := by decide +kernel
theorem dX11_restore_29 : decode cX11_restore 29 = .ok (.iload_n 1, 1) := by decide +kernel
theorem dX11_restore_30 : decode cX11_restore 30 = .ok (.aaload, 1) := by decide +kernel
theorem dX11_restore_31 : decode cX11_restore 31 = .ok (.putfield 49, 3) := by decide +kernel
theorem dX11_restore_34 : decode cX11_restore 34 = .ok (.aload_n 0, 1) := by decide +kernel
theorem dX11_restore_35 : decode cX11_restore 35 = .ok (.getfield 32, 3) := by decide +kernel
theorem dX11_restore_38 : decode cX11_restore 38 = .ok (.aload_n 0, 1) := by decide +kernel
theorem dX11_restore_39 : decode cX11_restore 39 = .ok (.getfield 40, 3) := by decide +kernel
theorem dX11_restore_42 : decode cX11_restore 42 = .ok (.iload_n 1, 1) := by decide +kernel
theorem dX11_restore_43 : decode cX11_restore 43 = .ok (.aaload, 1) := by decide +kernel
theorem dX11_restore_44 : decode cX11_restore 44 = .ok (.invokevirtual 156, 3) := by decide +kernel
theorem dX11_restore_47 : decode cX11_restore 47 = .ok (.aload_n 0, 1) := by decide +kernel
theorem dX11_restore_48 : decode cX11_restore 48 = .ok (.iconst 0, 1) := by decide +kernel
theorem dX11_restore_49 : decode cX11_restore 49 = .ok (.putfield 57, 3) := by decide +kernel
theorem dX11_restore_52 : decode cX11_restore 52 = .ok (.iconst 1, 1) := by decide +kernel
theorem dX11_restore_53 : decode cX11_restore 53 = .ok (.ireturn, 1) := by decide +kernel
theorem dX11_kind_0 : decode cX11_kind 0 = .ok (.aload_n 0, 1) := by decide +kernel
theorem dX11_kind_1 : decode cX11_kind 1 = .ok (.iload_n 1, 1) := by decide +kernel
theorem dX11_kind_2 : decode cX11_kind 2 = .ok (.invokevirtual 135, 3) := by decide +kernel
theorem dX11_kind_5 : decode cX11_kind 5 = .ok (.astore_n 2, 1) := by decide +kernel
theorem dX11_kind_6 : decode cX11_kind 6 = .ok (.aload_n 2, 1) := by decide +kernel
theorem dX11_kind_7 : decode cX11_kind 7 = .ok (.ifnonnull 8, 3) := by decide +kernel
theorem dX11_kind_10 : decode cX11_kind 10 = .ok (.ldc 71, 2) := by decide +kernel
theorem dX11_kind_12 : decode cX11_kind 12 = .ok (.goto 7, 3) := by decide +kernel
theorem dX11_kind_15 : decode cX11_kind 15 = .ok (.aload_n 2, 1) := by decide +kernel
theorem dX11_kind_16 : decode cX11_kind 16 = .ok (.invokevirtual 233, 3) := by decide +kernel
theorem dX11_kind_19 : decode cX11_kind 19 = .ok (.ireturn, 1) := by decide +kernel
theorem dX11_as_0 : decode cX11_as 0 = .ok (.aload_n 0, 1) := by decide +kernel
theorem dX11_as_1 : decode cX11_as 1 = .ok (.iload_n 1, 1) := by decide +kernel
theorem dX11_as_2 : decode cX11_as 2 = .ok (.invokevirtual 135, 3) := by decide +kernel
theorem dX11_as_5 : decode cX11_as 5 = .ok (.astore_n 3, 1) := by decide +kernel
theorem dX11_as_6 : decode cX11_as 6 = .ok (.aload_n 3, 1) := by decide +kernel
theorem dX11_as_7 : decode cX11_as 7 = .ok (.ifnull 13, 3) := by decide +kernel
theorem dX11_as_10 : decode cX11_as 10 = .ok (.iload_n 2, 1) := by decide +kernel
theorem dX11_as_11 : decode cX11_as 11 = .ok (.ifCond .lt 9, 3) := by decide +kernel
theorem dX11_as_14 : decode cX11_as 14 = .ok (.iload_n 2, 1) := by decide +kernel
theorem dX11_as_15 : decode cX11_as 15 = .ok (.bipush 6, 2) := by decide +kernel
theorem dX11_as_17 : decode cX11_as 17 = .ok (.if_icmp .lt 6, 3) := by decide +kernel
theorem dX11_as_20 : decode cX11_as 20 = .ok (.ldc 71, 2) := by decide +kernel
theorem dX11_as_22 : decode cX11_as 22 = .ok (.ireturn, 1) := by decide +kernel
theorem dX11_as_23 : decode cX11_as 23 = .ok (.aload_n 3, 1) := by decide +kernel
theorem dX11_as_24 : decode cX11_as 24 = .ok (.iload_n 2, 1) := by decide +kernel
theorem dX11_as_25 : decode cX11_as 25 = .ok (.invokestatic 237, 3) := by decide +kernel
theorem dX11_as_28 : decode cX11_as 28 = .ok (.ifCond .ne 9, 3) := by decide +kernel
theorem dX11_as_31 : decode cX11_as 31 = .ok (.aload_n 0, 1) := by decide +kernel
theorem dX11_as_32 : decode cX11_as 32 = .ok (.iconst 3, 1) := by decide +kernel
theorem dX11_as_33 : decode cX11_as 33 = .ok (.invokevirtual 72, 3) := by decide +kernel
theorem dX11_as_36 : decode cX11_as 36 = .ok (.ireturn, 1) := by decide +kernel
theorem dX11_as_37 : decode cX11_as 37 = .ok (.aload_n 0, 1) := by decide +kernel
theorem dX11_as_38 : decode cX11_as 38 = .ok (.aload_n 3, 1) := by decide +kernel
theorem dX11_as_39 : decode cX11_as 39 = .ok (.getfield 241, 3) := by decide +kernel
theorem dX11_as_42 : decode cX11_as 42 = .ok (.invokevirtual 80, 3) := by decide +kernel
theorem dX11_as_45 : decode cX11_as 45 = .ok (.ireturn, 1) := by decide +kernel
theorem dX11_ask_0 : decode cX11_ask 0 = .ok (.aload_n 0, 1) := by decide +kernel
theorem dX11_ask_1 : decode cX11_ask 1 = .ok (.iload_n 1, 1) := by decide +kernel
theorem dX11_ask_2 : decode cX11_ask 2 = .ok (.invokevirtual 135, 3) := by decide +kernel
theorem dX11_ask_5 : decode cX11_ask 5 = .ok (.astore_n 3, 1) := by decide +kernel
theorem dX11_ask_6 : decode cX11_ask 6 = .ok (.aload_n 3, 1) := by decide +kernel
theorem dX11_ask_7 : decode cX11_ask 7 = .ok (.ifnull 12, 3) := by decide +kernel
theorem dX11_ask_10 : decode cX11_ask 10 = .ok (.iload_n 2, 1) := by decide +kernel
theorem dX11_ask_11 : decode cX11_ask 11 = .ok (.ifCond .lt 8, 3) := by decide +kernel
theorem dX11_ask_14 : decode cX11_ask 14 = .ok (.iload_n 2, 1) := by decide +kernel
theorem dX11_ask_15 : decode cX11_ask 15 = .ok (.iconst 1, 1) := by decide +kernel
theorem dX11_ask_16 : decode cX11_ask 16 = .ok (.if_icmp .le 6, 3) := by decide +kernel
theorem dX11_ask_19 : decode cX11_ask 19 = .ok (.ldc 71, 2) := by decide +kernel
theorem dX11_ask_21 : decode cX11_ask 21 = .ok (.ireturn, 1) := by decide +kernel
theorem dX11_ask_22 : decode cX11_ask 22 = .ok (.aload_n 0, 1) := by decide +kernel
theorem dX11_ask_23 : decode cX11_ask 23 = .ok (.getfield 25, 3) := by decide +kernel
theorem dX11_ask_26 : decode cX11_ask 26 = .ok (.invokevirtual 244, 3) := by decide +kernel
theorem dX11_ask_29 : decode cX11_ask 29 = .ok (.iload_n 2, 1) := by decide +kernel
theorem dX11_ask_30 : decode cX11_ask 30 = .ok (.ifCond .ne 14, 3) := by decide +kernel
theorem dX11_ask_33 : decode cX11_ask 33 = .ok (.aload_n 3, 1) := by decide +kernel
theorem dX11_ask_34 : decode cX11_ask 34 = .ok (.aload_n 0, 1) := by decide +kernel
theorem dX11_ask_35 : decode cX11_ask 35 = .ok (.getfield 25, 3) := by decide +kernel
theorem dX11_ask_38 : decode cX11_ask 38 = .ok (.invokevirtual 246, 3) := by decide +kernel
theorem dX11_ask_41 : decode cX11_ask 41 = .ok (.goto 11, 3) := by decide +kernel
theorem dX11_ask_44 : decode cX11_ask 44 = .ok (.aload_n 3, 1) := by decide +kernel
theorem dX11_ask_45 : decode cX11_ask 45 = .ok (.aload_n 0, 1) := by decide +kernel
theorem dX11_ask_46 : decode cX11_ask 46 = .ok (.getfield 25, 3) := by decide +kernel
theorem dX11_ask_49 : decode cX11_ask 49 = .ok (.invokevirtual 249, 3) := by decide +kernel
theorem dX11_ask_52 : decode cX11_ask 52 = .ok (.ireturn, 1) := by decide +kernel
theorem dX11_trace_0 : decode cX11_trace 0 = .ok (.iload_n 1, 1) := by decide +kernel
theorem dX11_trace_1 : decode cX11_trace 1 = .ok (.ifCond .lt 14, 3) := by decide +kernel
theorem dX11_trace_4 : decode cX11_trace 4 = .ok (.iload_n 1, 1) := by decide +kernel
theorem dX11_trace_5 : decode cX11_trace 5 = .ok (.aload_n 0, 1) := by decide +kernel
theorem dX11_trace_6 : decode cX11_trace 6 = .ok (.getfield 25, 3) := by decide +kernel
theorem dX11_trace_9 : decode cX11_trace 9 = .ok (.getfield 252, 3) := by decide +kernel
theorem dX11_trace_12 : decode cX11_trace 12 = .ok (.if_icmp .lt 8, 3) := by decide +kernel
theorem dX11_trace_15 : decode cX11_trace 15 = .ok (.ldc 205, 2) := by decide +kernel
theorem dX11_trace_17 : decode cX11_trace 17 = .ok (.goto 12, 3) := by decide +kernel
theorem dX11_trace_20 : decode cX11_trace 20 = .ok (.aload_n 0, 1) := by decide +kernel
theorem dX11_trace_21 : decode cX11_trace 21 = .ok (.getfield 25, 3) := by decide +kernel
theorem dX11_trace_24 : decode cX11_trace 24 = .ok (.getfield 253, 3) := by decide +kernel
theorem dX11_trace_27 : decode cX11_trace 27 = .ok (.iload_n 1, 1) := by decide +kernel
theorem dX11_trace_28 : decode cX11_trace 28 = .ok (.iaload, 1) := by decide +kernel
theorem dX11_trace_29 : decode cX11_trace 29 = .ok (.ireturn, 1) := by decide +kernel
theorem dX11_count_0 : decode cX11_count 0 = .ok (.aload_n 0, 1) := by decide +kernel
theorem dX11_count_1 : decode cX11_count 1 = .ok (.getfield 49, 3) := by decide +kernel
theorem dX11_count_4 : decode cX11_count 4 = .ok (.astore_n 2, 1) := by decide +kernel
theorem dX11_count_5 : decode cX11_count 5 = .ok (.iload_n 1, 1) := by decide +kernel
theorem dX11_count_6 : decode cX11_count 6 = .ok (.tableswitch 107 0 6 #[42, 47, 60, 68, 81, 86, 99], 42) := by decide +kernel
theorem dX11_count_48 : decode cX11_count 48 = .ok (.aload_n 0, 1) := by decide +kernel
theorem dX11_count_49 : decode cX11_count 49 = .ok (.invokevirtual 256, 3) := by decide +kernel
theorem dX11_count_52 : decode cX11_count 52 = .ok (.ireturn, 1) := by decide +kernel
theorem dX11_count_53 : decode cX11_count 53 = .ok (.aload_n 2, 1) := by decide +kernel
theorem dX11_count_54 : decode cX11_count 54 = .ok (.ifnonnull 7, 3) := by decide +kernel
theorem dX11_count_57 : decode cX11_count 57 = .ok (.iconst 0, 1) := by decide +kernel
theorem dX11_count_58 : decode cX11_count 58 = .ok (.goto 7, 3) := by decide +kernel
theorem dX11_count_61 : decode cX11_count 61 = .ok (.aload_n 2, 1) := by decide +kernel
theorem dX11_count_62 : decode cX11_count 62 = .ok (.getfield 132, 3) := by decide +kernel
theorem dX11_count_65 : decode cX11_count 65 = .ok (.ireturn, 1) := by decide +kernel
theorem dX11_count_66 : decode cX11_count 66 = .ok (.aload_n 0, 1) := by decide +kernel
theorem dX11_count_67 : decode cX11_count 67 = .ok (.getfield 32, 3) := by decide +kernel
theorem dX11_count_70 : decode cX11_count 70 = .ok (.getfield 155, 3) := by decide +kernel
theorem dX11_count_73 : decode cX11_count 73 = .ok (.ireturn, 1) := by decide +kernel
theorem dX11_count_74 : decode cX11_count 74 = .ok (.aload_n 2, 1) := by decide +kernel
theorem dX11_count_75 : decode cX11_count 75 = .ok (.ifnonnull 7, 3) := by decide +kernel
theorem dX11_count_78 : decode cX11_count 78 = .ok (.iconst 0, 1) := by decide +kernel
theorem dX11_count_79 : decode cX11_count 79 = .ok (.goto 7, 3) := by decide +kernel
theorem dX11_count_82 : decode cX11_count 82 = .ok (.aload_n 2, 1) := by decide +kernel
theorem dX11_count_83 : decode cX11_count 83 = .ok (.getfield 259, 3) := by decide +kernel
theorem dX11_count_86 : decode cX11_count 86 = .ok (.ireturn, 1) := by decide +kernel
theorem dX11_count_87 : decode cX11_count 87 = .ok (.aload_n 0, 1) := by decide +kernel
theorem dX11_count_88 : decode cX11_count 88 = .ok (.getfield 57, 3) := by decide +kernel
theorem dX11_count_91 : decode cX11_count 91 = .ok (.ireturn, 1) := by decide +kernel
theorem dX11_count_92 : decode cX11_count 92 = .ok (.aload_n 2, 1) := by decide +kernel
theorem dX11_count_93 : decode cX11_count 93 = .ok (.ifnonnull 7, 3) := by decide +kernel
theorem dX11_count_96 : decode cX11_count 96 = .ok (.iconst 0, 1) := by decide +kernel
theorem dX11_count_97 : decode cX11_count 97 = .ok (.goto 7, 3) := by decide +kernel
theorem dX11_count_100 : decode cX11_count 100 = .ok (.aload_n 2, 1) := by decide +kernel
theorem dX11_count_101 : decode cX11_count 101 = .ok (.invokevirtual 262, 3) := by decide +kernel
theorem dX11_count_104 : decode cX11_count 104 = .ok (.ireturn, 1) := by decide +kernel
theorem dX11_count_105 : decode cX11_count 105 = .ok (.aload_n 0, 1) := by decide +kernel
theorem dX11_count_106 : decode cX11_count 106 = .ok (.getfield 18, 3) := by decide +kernel
theorem dX11_count_109 : decode cX11_count 109 = .ok (.getfield 116, 3) := by decide +kernel
theorem dX11_count_112 : decode cX11_count 112 = .ok (.ireturn, 1) := by decide +kernel
theorem dX11_count_113 : decode cX11_count 113 = .ok (.ldc 71, 2) := by decide +kernel
theorem dX11_count_115 : decode cX11_count 115 = .ok (.ireturn, 1) := by decide +kernel
theorem dX11_status_0 : decode cX11_status 0 = .ok (.aload_n 0, 1) := by decide +kernel
theorem dX11_status_1 : decode cX11_status 1 = .ok (.getfield 63, 3) := by decide +kernel
theorem dX11_status_4 : decode cX11_status 4 = .ok (.ireturn, 1) := by decide +kernel
theorem dX11_isOne_0 : decode cX11_isOne 0 = .ok (.iload_n 1, 1) := by decide +kernel
theorem dX11_isOne_1 : decode cX11_isOne 1 = .ok (.tableswitch 66 0 5 #[39, 41, 46, 51, 56, 61], 39) := by decide +kernel
theorem dX11_isOne_40 : decode cX11_isOne 40 = .ok (.iconst 1, 1) := by decide +kernel
theorem dX11_isOne_41 : decode cX11_isOne 41 = .ok (.ireturn, 1) := by decide +kernel
theorem dX11_isOne_42 : decode cX11_isOne 42 = .ok (.aload_n 0, 1) := by decide +kernel
theorem dX11_isOne_43 : decode cX11_isOne 43 = .ok (.instanceof 265, 3) := by decide +kernel
theorem dX11_isOne_46 : decode cX11_isOne 46 = .ok (.ireturn, 1) := by decide +kernel
theorem dX11_isOne_47 : decode cX11_isOne 47 = .ok (.aload_n 0, 1) := by decide +kernel
theorem dX11_isOne_48 : decode cX11_isOne 48 = .ok (.instanceof 267, 3) := by decide +kernel
theorem dX11_isOne_51 : decode cX11_isOne 51 = .ok (.ireturn, 1) := by decide +kernel
theorem dX11_isOne_52 : decode cX11_isOne 52 = .ok (.aload_n 0, 1) := by decide +kernel
theorem dX11_isOne_53 : decode cX11_isOne 53 = .ok (.instanceof 269, 3) := by decide +kernel
theorem dX11_isOne_56 : decode cX11_isOne 56 = .ok (.ireturn, 1) := by decide +kernel
theorem dX11_isOne_57 : decode cX11_isOne 57 = .ok (.aload_n 0, 1) := by decide +kernel
theorem dX11_isOne_58 : decode cX11_isOne 58 = .ok (.instanceof 271, 3) := by decide +kernel
theorem dX11_isOne_61 : decode cX11_isOne 61 = .ok (.ireturn, 1) := by decide +kernel
theorem dX11_isOne_62 : decode cX11_isOne 62 = .ok (.aload_n 0, 1) := by decide +kernel
theorem dX11_isOne_63 : decode cX11_isOne 63 = .ok (.instanceof 273, 3) := by decide +kernel
theorem dX11_isOne_66 : decode cX11_isOne 66 = .ok (.ireturn, 1) := by decide +kernel
theorem dX11_isOne_67 : decode cX11_isOne 67 = .ok (.iconst 0, 1) := by decide +kernel
theorem dX11_isOne_68 : decode cX11_isOne 68 = .ok (.ireturn, 1) := by decide +kernel
theorem dX11_rowsThere_0 : decode cX11_rowsThere 0 = .ok (.iconst 0, 1) := by decide +kernel
theorem dX11_rowsThere_1 : decode cX11_rowsThere 1 = .ok (.istore_n 1, 1) := by decide +kernel
theorem dX11_rowsThere_2 : decode cX11_rowsThere 2 = .ok (.iconst 0, 1) := by decide +kernel
theorem dX11_rowsThere_3 : decode cX11_rowsThere 3 = .ok (.istore_n 2, 1) := by decide +kernel
theorem dX11_rowsThere_4 : decode cX11_rowsThere 4 = .ok (.iload_n 2, 1) := by decide +kernel
theorem dX11_rowsThere_5 : decode cX11_rowsThere 5 = .ok (.bipush 8, 2) := by decide +kernel
theorem dX11_rowsThere_7 : decode cX11_rowsThere 7 = .ok (.if_icmp .ge 24, 3) := by decide +kernel
theorem dX11_rowsThere_10 : decode cX11_rowsThere 10 = .ok (.aload_n 0, 1) := by decide +kernel
theorem dX11_rowsThere_11 : decode cX11_rowsThere 11 = .ok (.getfield 11, 3) := by decide +kernel
theorem dX11_rowsThere_14 : decode cX11_rowsThere 14 = .ok (.iload_n 2, 1) := by decide +kernel
theorem dX11_rowsThere_15 : decode cX11_rowsThere 15 = .ok (.aaload, 1) := by decide +kernel
theorem dX11_rowsThere_16 : decode cX11_rowsThere 16 = .ok (.invokevirtual 83, 3) := by decide +kernel
theorem dX11_rowsThere_19 : decode cX11_rowsThere 19 = .ok (.ifCond .ne 6, 3) := by decide +kernel
theorem dX11_rowsThere_22 : decode cX11_rowsThere 22 = .ok (.iinc 1 1, 3) := by decide +kernel
theorem dX11_rowsThere_25 : decode cX11_rowsThere 25 = .ok (.iinc 2 1, 3) := by decide +kernel
theorem dX11_rowsThere_28 : decode cX11_rowsThere 28 = .ok (.goto (-24), 3) := by decide +kernel
theorem dX11_rowsThere_31 : decode cX11_rowsThere 31 = .ok (.iload_n 1, 1) := by decide +kernel
theorem dX11_rowsThere_32 : decode cX11_rowsThere 32 = .ok (.ireturn, 1) := by decide +kernel
