theorem dX12_readsVillage_0 : decode cX12_readsVillage 0 = .ok (.aload_n 0, 1) := by decide +kernel
theorem dX12_readsVillage_1 : decode cX12_readsVillage 1 = .ok (.aload_n 0, 1) := by decide +kernel
theorem dX12_readsVillage_2 : decode cX12_readsVillage 2 = .ok (.getfield 38, 3) := by decide +kernel
theorem dX12_readsVillage_5 : decode cX12_readsVillage 5 = .ok (.iconst 3, 1) := by decide +kernel
theorem dX12_readsVillage_6 : decode cX12_readsVillage 6 = .ok (.iaload, 1) := by decide +kernel
theorem dX12_readsVillage_7 : decode cX12_readsVillage 7 = .ok (.bipush 8, 2) := by decide +kernel
theorem dX12_readsVillage_9 : decode cX12_readsVillage 9 = .ok (.if_icmp .ge 7, 3) := by decide +kernel
theorem dX12_readsVillage_16 : decode cX12_readsVillage 16 = .ok (.iconst 0, 1) := by decide +kernel
set_option maxRecDepth 20000 in
theorem ggX12_readsVillage_X12_hasRoom : GoodIn wsX12_readsVillage wsX12_hasRoom := goodIn_r _ [8, 9, 49, 50, 51, 52, 53, 54, 55, 56, 57, 58, 59, 60, 61, 62, 63, 64, 65, 66, 67, 68, 69, 70, 71, 72, 73, 74] (by decide +kernel) (by decide +kernel)
set_option maxRecDepth 20000 in
theorem gX12_readsVillage_X12_hasRoom : GoodIn wsX12_readsVillage (wsV RX12 132 RX12 yX12_hasRoom wsX12_hasRoom) := goodIn_app (goodIn_of _ (by decide +kernel)) ggX12_readsVillage_X12_hasRoom
theorem dX12_readsVillage_17 : decode cX12_readsVillage 17 = .ok (.invokevirtual 132, 3) := by decide +kernel
theorem dX12_readsVillage_20 : decode cX12_readsVillage 20 = .ok (.ifCond .eq 20, 3) := by decide +kernel
theorem dX12_readsVillage_40 : decode cX12_readsVillage 40 = .ok (.iconst 0, 1) := by decide +kernel
theorem dX12_readsVillage_41 : decode cX12_readsVillage 41 = .ok (.ireturn, 1) := by decide +kernel
theorem dX12_readsVillage_12 : decode cX12_readsVillage 12 = .ok (.iconst 1, 1) := by decide +kernel
theorem dX12_readsVillage_13 : decode cX12_readsVillage 13 = .ok (.goto 4, 3) := by decide +kernel
theorem dX12_readsVillage_23 : decode cX12_readsVillage 23 = .ok (.aload_n 0, 1) := by decide +kernel
set_option maxRecDepth 20000 in
theorem ggX12_readsVillage_X12_takesCell : GoodIn wsX12_readsVillage wsX12_takesCell := goodIn_r _ [13, 3, 2, 14, 15, 16, 7, 17, 18, 9, 19, 20, 21, 22, 23, 24, 25, 26, 27, 28, 29, 30, 31, 32, 33, 34, 35, 36, 37, 38, 39, 40, 49, 50, 51, 52, 53, 54, 55, 56, 57, 58, 59, 60, 61, 62, 63, 64, 65, 66, 67, 68, 69, 70, 71, 72, 73, 74] (by decide +kernel) (by decide +kernel)
set_option maxRecDepth 20000 in
theorem gX12_readsVillage_X12_takesCell : GoodIn wsX12_readsVillage (wsV RX12 135 RX12 yX12_takesCell wsX12_takesCell) := goodIn_app (goodIn_of _ (by decide +kernel)) ggX12_readsVillage_X12_takesCell
theorem dX12_readsVillage_24 : decode cX12_readsVillage 24 = .ok (.invokevirtual 135, 3) := by decide +kernel
theorem dX12_readsVillage_27 : decode cX12_readsVillage 27 = .ok (.ifCond .eq 13, 3) := by decide +kernel
theorem dX12_readsVillage_30 : decode cX12_readsVillage 30 = .ok (.aload_n 0, 1) := by decide +kernel
theorem dX12_readsVillage_31 : decode cX12_readsVillage 31 = .ok (.iconst 1, 1) := by decide +kernel
theorem dX12_readsVillage_32 : decode cX12_readsVillage 32 = .ok (.bipush 99, 2) := by decide +kernel
set_option maxRecDepth 20000 in
theorem ggX12_readsVillage_X12_number : GoodIn wsX12_readsVillage wsX12_number := goodIn_r _ [17, 18, 9, 3, 19, 20, 21, 7, 22, 23, 24, 25, 26, 27, 28, 29, 30, 31, 32, 33, 34, 35, 36, 37, 38, 39, 40, 49, 50, 51, 52, 53, 54, 55, 56, 57, 58, 59, 60, 61, 62, 63, 64, 65, 66, 67, 68, 69, 70, 71, 72, 73, 74] (by decide +kernel) (by decide +kernel)
set_option maxRecDepth 20000 in
theorem gX12_readsVillage_X12_number : GoodIn wsX12_readsVillage (wsV RX12 125 RX12 yX12_number wsX12_number) := goodIn_app (goodIn_of _ (by decide +kernel)) ggX12_readsVillage_X12_number
theorem dX12_readsVillage_34 : decode cX12_readsVillage 34 = .ok (.invokevirtual 125, 3) := by decide +kernel
theorem dX12_readsVillage_37 : decode cX12_readsVillage 37 = .ok (.ifCond .ne 5, 3) := by decide +kernel
theorem dX12_readsVillage_42 : decode cX12_readsVillage 42 = .ok (.aload_n 0, 1) := by decide +kernel
theorem dX12_readsVillage_43 : decode cX12_readsVillage 43 = .ok (.getfield 38, 3) := by decide +kernel
theorem dX12_readsVillage_46 : decode cX12_readsVillage 46 = .ok (.bipush 73, 2) := by decide +kernel
theorem dX12_readsVillage_48 : decode cX12_readsVillage 48 = .ok (.aload_n 0, 1) := by decide +kernel
theorem dX12_readsVillage_49 : decode cX12_readsVillage 49 = .ok (.getfield 129, 3) := by decide +kernel
theorem dX12_readsVillage_52 : decode cX12_readsVillage 52 = .ok (.iadd, 1) := by decide +kernel
theorem dX12_readsVillage_53 : decode cX12_readsVillage 53 = .ok (.dup2, 1) := by decide +kernel
theorem dX12_readsVillage_54 : decode cX12_readsVillage 54 = .ok (.iaload, 1) := by decide +kernel
theorem dX12_readsVillage_55 : decode cX12_readsVillage 55 = .ok (.aload_n 0, 1) := by decide +kernel
theorem dX12_readsVillage_56 : decode cX12_readsVillage 56 = .ok (.getfield 103, 3) := by decide +kernel
theorem dX12_readsVillage_59 : decode cX12_readsVillage 59 = .ok (.l2i, 1) := by decide +kernel
theorem dX12_readsVillage_60 : decode cX12_readsVillage 60 = .ok (.iadd, 1) := by decide +kernel
theorem dX12_readsVillage_61 : decode cX12_readsVillage 61 = .ok (.iastore, 1) := by decide +kernel
theorem dX12_readsVillage_62 : decode cX12_readsVillage 62 = .ok (.aload_n 0, 1) := by decide +kernel
theorem dX12_readsVillage_63 : decode cX12_readsVillage 63 = .ok (.getfield 38, 3) := by decide +kernel
theorem dX12_readsVillage_66 : decode cX12_readsVillage 66 = .ok (.iconst 3, 1) := by decide +kernel
theorem dX12_readsVillage_67 : decode cX12_readsVillage 67 = .ok (.dup2, 1) := by decide +kernel
theorem dX12_readsVillage_68 : decode cX12_readsVillage 68 = .ok (.iaload, 1) := by decide +kernel
theorem dX12_readsVillage_69 : decode cX12_readsVillage 69 = .ok (.iconst 1, 1) := by decide +kernel
theorem dX12_readsVillage_70 : decode cX12_readsVillage 70 = .ok (.iadd, 1) := by decide +kernel
theorem dX12_readsVillage_71 : decode cX12_readsVillage 71 = .ok (.iastore, 1) := by decide +kernel
theorem dX12_readsVillage_72 : decode cX12_readsVillage 72 = .ok (.aload_n 0, 1) := by decide +kernel
set_option maxRecDepth 20000 in
theorem ggX12_readsVillage_X12_ends : GoodIn wsX12_readsVillage wsX12_ends := goodIn_r _ [44, 18, 19, 20, 21, 7, 22, 23, 24, 25, 26, 3, 27, 28, 29, 30, 31, 32, 33, 34, 35, 36, 37, 38, 39, 40, 45, 46, 47, 48, 9, 49, 50, 51, 52, 53, 54, 55, 56, 57, 58, 59, 60, 61, 62, 63, 64, 65, 66, 67, 68, 69, 70, 71, 72, 73, 74] (by decide +kernel) (by decide +kernel)
set_option maxRecDepth 20000 in
theorem gX12_readsVillage_X12_ends : GoodIn wsX12_readsVillage (wsV RX12 139 RX12 yX12_ends wsX12_ends) := goodIn_app (goodIn_of _ (by decide +kernel)) ggX12_readsVillage_X12_ends
theorem dX12_readsVillage_73 : decode cX12_readsVillage 73 = .ok (.invokevirtual 139, 3) := by decide +kernel
theorem dX12_readsVillage_76 : decode cX12_readsVillage 76 = .ok (.ireturn, 1) := by decide +kernel
theorem dX12_readsGuard_0 : decode cX12_readsGuard 0 = .ok (.aload_n 0, 1) := by decide +kernel
theorem dX12_readsGuard_1 : decode cX12_readsGuard 1 = .ok (.aload_n 0, 1) := by decide +kernel
theorem dX12_readsGuard_2 : decode cX12_readsGuard 2 = .ok (.getfield 142, 3) := by decide +kernel
theorem dX12_readsGuard_5 : decode cX12_readsGuard 5 = .ok (.bipush 8, 2) := by decide +kernel
theorem dX12_readsGuard_7 : decode cX12_readsGuard 7 = .ok (.if_icmp .ge 7, 3) := by decide +kernel
theorem dX12_readsGuard_14 : decode cX12_readsGuard 14 = .ok (.iconst 0, 1) := by decide +kernel
set_option maxRecDepth 20000 in
theorem ggX12_readsGuard_X12_hasRoom : GoodIn wsX12_readsGuard wsX12_hasRoom := goodIn_r _ [8, 9, 50, 51, 52, 53, 54, 55, 56, 57, 58, 59, 60, 61, 62, 63, 64, 65, 66, 67, 68, 69, 70, 71, 72, 73, 74, 75] (by decide +kernel) (by decide +kernel)
set_option maxRecDepth 20000 in
theorem gX12_readsGuard_X12_hasRoom : GoodIn wsX12_readsGuard (wsV RX12 132 RX12 yX12_hasRoom wsX12_hasRoom) := goodIn_app (goodIn_of _ (by decide +kernel)) ggX12_readsGuard_X12_hasRoom
theorem dX12_readsGuard_15 : decode cX12_readsGuard 15 = .ok (.invokevirtual 132, 3) := by decide +kernel
theorem dX12_readsGuard_18 : decode cX12_readsGuard 18 = .ok (.ifCond .eq 10, 3) := by decide +kernel
theorem dX12_readsGuard_28 : decode cX12_readsGuard 28 = .ok (.iconst 0, 1) := by decide +kernel
theorem dX12_readsGuard_29 : decode cX12_readsGuard 29 = .ok (.ireturn, 1) := by decide +kernel
theorem dX12_readsGuard_10 : decode cX12_readsGuard 10 = .ok (.iconst 1, 1) := by decide +kernel
theorem dX12_readsGuard_11 : decode cX12_readsGuard 11 = .ok (.goto 4, 3) := by decide +kernel
theorem dX12_readsGuard_21 : decode cX12_readsGuard 21 = .ok (.aload_n 0, 1) := by decide +kernel
set_option maxRecDepth 20000 in
theorem ggX12_readsGuard_X12_takesCell : GoodIn wsX12_readsGuard wsX12_takesCell := goodIn_r _ [13, 14, 3, 15, 16, 17, 7, 18, 19, 9, 20, 21, 22, 23, 24, 25, 26, 27, 28, 29, 30, 31, 32, 33, 34, 35, 36, 37, 38, 39, 40, 41, 50, 51, 52, 53, 54, 55, 56, 57, 58, 59, 60, 61, 62, 63, 64, 65, 66, 67, 68, 69, 70, 71, 72, 73, 74, 75] (by decide +kernel) (by decide +kernel)
set_option maxRecDepth 20000 in
theorem gX12_readsGuard_X12_takesCell : GoodIn wsX12_readsGuard (wsV RX12 135 RX12 yX12_takesCell wsX12_takesCell) := goodIn_app (goodIn_of _ (by decide +kernel)) ggX12_readsGuard_X12_takesCell
theorem dX12_readsGuard_22 : decode cX12_readsGuard 22 = .ok (.invokevirtual 135, 3) := by decide +kernel
theorem dX12_readsGuard_25 : decode cX12_readsGuard 25 = .ok (.ifCond .ne 5, 3) := by decide +kernel
theorem dX12_readsGuard_30 : decode cX12_readsGuard 30 = .ok (.aload_n 0, 1) := by decide +kernel
theorem dX12_readsGuard_31 : decode cX12_readsGuard 31 = .ok (.getfield 38, 3) := by decide +kernel
theorem dX12_readsGuard_34 : decode cX12_readsGuard 34 = .ok (.bipush 25, 2) := by decide +kernel
theorem dX12_readsGuard_36 : decode cX12_readsGuard 36 = .ok (.aload_n 0, 1) := by decide +kernel
theorem dX12_readsGuard_37 : decode cX12_readsGuard 37 = .ok (.getfield 129, 3) := by decide +kernel
theorem dX12_readsGuard_40 : decode cX12_readsGuard 40 = .ok (.iadd, 1) := by decide +kernel
theorem dX12_readsGuard_41 : decode cX12_readsGuard 41 = .ok (.iconst 1, 1) := by decide +kernel
theorem dX12_readsGuard_42 : decode cX12_readsGuard 42 = .ok (.iastore, 1) := by decide +kernel
theorem dX12_readsGuard_43 : decode cX12_readsGuard 43 = .ok (.aload_n 0, 1) := by decide +kernel
theorem dX12_readsGuard_44 : decode cX12_readsGuard 44 = .ok (.dup, 1) := by decide +kernel
theorem dX12_readsGuard_45 : decode cX12_readsGuard 45 = .ok (.getfield 142, 3) := by decide +kernel
theorem dX12_readsGuard_48 : decode cX12_readsGuard 48 = .ok (.iconst 1, 1) := by decide +kernel
theorem dX12_readsGuard_49 : decode cX12_readsGuard 49 = .ok (.iadd, 1) := by decide +kernel
theorem dX12_readsGuard_50 : decode cX12_readsGuard 50 = .ok (.putfield 142, 3) := by decide +kernel
theorem dX12_readsGuard_53 : decode cX12_readsGuard 53 = .ok (.aload_n 0, 1) := by decide +kernel
set_option maxRecDepth 20000 in
theorem ggX12_readsGuard_X12_ends : GoodIn wsX12_readsGuard wsX12_ends := goodIn_r _ [45, 19, 20, 21, 22, 7, 23, 24, 25, 26, 27, 14, 28, 29, 30, 31, 32, 33, 34, 35, 36, 37, 38, 39, 40, 41, 46, 47, 48, 49, 9, 50, 51, 52, 53, 54, 55, 56, 57, 58, 59, 60, 61, 62, 63, 64, 65, 66, 67, 68, 69, 70, 71, 72, 73, 74, 75] (by decide +kernel) (by decide +kernel)
set_option maxRecDepth 20000 in
theorem gX12_readsGuard_X12_ends : GoodIn wsX12_readsGuard (wsV RX12 139 RX12 yX12_ends wsX12_ends) := goodIn_app (goodIn_of _ (by decide +kernel)) ggX12_readsGuard_X12_ends
theorem dX12_readsGuard_54 : decode cX12_readsGuard 54 = .ok (.invokevirtual 139, 3) := by decide +kernel
theorem dX12_readsGuard_57 : decode cX12_readsGuard 57 = .ok (.ireturn, 1) := by decide +kernel
theorem dX12_kindHere_0 : decode cX12_kindHere 0 = .ok (.aload_n 0, 1) := by decide +kernel
set_option maxRecDepth 20000 in
theorem ggX12_kindHere_X12_next : GoodIn wsX12_kindHere wsX12_next := goodIn_r _ [12, 13, 14, 15, 16, 1, 2, 17, 18, 19, 20, 21, 22, 23, 11, 24, 25, 26, 27, 28, 29, 30, 31, 32, 33, 34, 35, 36, 37, 38, 39, 40, 41, 42, 43, 44, 45, 46, 47, 48, 49, 50, 51, 52, 53, 54, 55, 56] (by decide +kernel) (by decide +kernel)
set_option maxRecDepth 20000 in
theorem gX12_kindHere_X12_next : GoodIn wsX12_kindHere (wsV RX12 115 RX12 yX12_next wsX12_next) := goodIn_app (goodIn_of _ (by decide +kernel)) ggX12_kindHere_X12_next
theorem dX12_kindHere_1 : decode cX12_kindHere 1 = .ok (.invokevirtual 115, 3) := by decide +kernel
theorem dX12_kindHere_4 : decode cX12_kindHere 4 = .ok (.aload_n 0, 1) := by decide +kernel
theorem dX12_kindHere_5 : decode cX12_kindHere 5 = .ok (.getfield 100, 3) := by decide +kernel
theorem dX12_kindHere_8 : decode cX12_kindHere 8 = .ok (.iconst 1, 1) := by decide +kernel
theorem dX12_kindHere_9 : decode cX12_kindHere 9 = .ok (.if_icmp .eq 7, 3) := by decide +kernel
theorem dX12_kindHere_16 : decode cX12_kindHere 16 = .ok (.aload_n 0, 1) := by decide +kernel
theorem dX12_kindHere_17 : decode cX12_kindHere 17 = .ok (.getfield 103, 3) := by decide +kernel
theorem dX12_kindHere_20 : decode cX12_kindHere 20 = .ok (.ldc2_w 145, 3) := by decide +kernel
theorem dX12_kindHere_23 : decode cX12_kindHere 23 = .ok (.lcmp, 1) := by decide +kernel
theorem dX12_kindHere_24 : decode cX12_kindHere 24 = .ok (.ifCond .ne 7, 3) := by decide +kernel
theorem dX12_kindHere_31 : decode cX12_kindHere 31 = .ok (.aload_n 0, 1) := by decide +kernel
theorem dX12_kindHere_32 : decode cX12_kindHere 32 = .ok (.getfield 103, 3) := by decide +kernel
theorem dX12_kindHere_35 : decode cX12_kindHere 35 = .ok (.ldc2_w 147, 3) := by decide +kernel
theorem dX12_kindHere_38 : decode cX12_kindHere 38 = .ok (.lcmp, 1) := by decide +kernel
theorem dX12_kindHere_39 : decode cX12_kindHere 39 = .ok (.ifCond .ne 7, 3) := by decide +kernel
theorem dX12_kindHere_46 : decode cX12_kindHere 46 = .ok (.aload_n 0, 1) := by decide +kernel
theorem dX12_kindHere_47 : decode cX12_kindHere 47 = .ok (.getfield 103, 3) := by decide +kernel
theorem dX12_kindHere_50 : decode cX12_kindHere 50 = .ok (.ldc2_w 149, 3) := by decide +kernel
theorem dX12_kindHere_53 : decode cX12_kindHere 53 = .ok (.lcmp, 1) := by decide +kernel
theorem dX12_kindHere_54 : decode cX12_kindHere 54 = .ok (.ifCond .ne 7, 3) := by decide +kernel
theorem dX12_kindHere_61 : decode cX12_kindHere 61 = .ok (.aload_n 0, 1) := by decide +kernel
theorem dX12_kindHere_62 : decode cX12_kindHere 62 = .ok (.getfield 103, 3) := by decide +kernel
theorem dX12_kindHere_65 : decode cX12_kindHere 65 = .ok (.ldc2_w 151, 3) := by decide +kernel
theorem dX12_kindHere_68 : decode cX12_kindHere 68 = .ok (.lcmp, 1) := by decide +kernel
theorem dX12_kindHere_69 : decode cX12_kindHere 69 = .ok (.ifCond .ne 7, 3) := by decide +kernel
theorem dX12_kindHere_76 : decode cX12_kindHere 76 = .ok (.aload_n 0, 1) := by decide +kernel
theorem dX12_kindHere_77 : decode cX12_kindHere 77 = .ok (.getfield 103, 3) := by decide +kernel
theorem dX12_kindHere_80 : decode cX12_kindHere 80 = .ok (.ldc2_w 153, 3) := by decide +kernel
theorem dX12_kindHere_83 : decode cX12_kindHere 83 = .ok (.lcmp, 1) := by decide +kernel
theorem dX12_kindHere_84 : decode cX12_kindHere 84 = .ok (.ifCond .ne 7, 3) := by decide +kernel
theorem dX12_kindHere_91 : decode cX12_kindHere 91 = .ok (.iconst 0, 1) := by decide +kernel
theorem dX12_kindHere_92 : decode cX12_kindHere 92 = .ok (.ireturn, 1) := by decide +kernel
theorem dX12_kindHere_87 : decode cX12_kindHere 87 = .ok (.iconst 5, 1) := by decide +kernel
theorem dX12_kindHere_88 : decode cX12_kindHere 88 = .ok (.goto 4, 3) := by decide +kernel
theorem dX12_kindHere_72 : decode cX12_kindHere 72 = .ok (.iconst 4, 1) := by decide +kernel
theorem dX12_kindHere_73 : decode cX12_kindHere 73 = .ok (.goto 19, 3) := by decide +kernel
theorem dX12_kindHere_57 : decode cX12_kindHere 57 = .ok (.iconst 3, 1) := by decide +kernel
theorem dX12_kindHere_58 : decode cX12_kindHere 58 = .ok (.goto 34, 3) := by decide +kernel
theorem dX12_kindHere_42 : decode cX12_kindHere 42 = .ok (.iconst 2, 1) := by decide +kernel
theorem dX12_kindHere_43 : decode cX12_kindHere 43 = .ok (.goto 49, 3) := by decide +kernel
theorem dX12_kindHere_27 : decode cX12_kindHere 27 = .ok (.iconst 1, 1) := by decide +kernel
theorem dX12_kindHere_28 : decode cX12_kindHere 28 = .ok (.goto 64, 3) := by decide +kernel
theorem dX12_kindHere_12 : decode cX12_kindHere 12 = .ok (.iconst 0, 1) := by decide +kernel
theorem dX12_kindHere_13 : decode cX12_kindHere 13 = .ok (.goto 79, 3) := by decide +kernel
set_option maxRecDepth 100000 in
set_option maxHeartbeats 4000000 in
theorem c_X12_readsVillage {E : XE} {B N : Nat} {v : Nat → va_E} {F t r : Nat → Int} {V : Int} {a b n : Nat} (hc0 : Cel N v 161 (oM B F V)) (hc1 : Cel N v 165 (iarr E 400 t)) (hc2 : Cel N v 171 (iarr E 138 r)) (hq0 : F 15 = (a : Int)) (hq1 : F 19 = (n : Int)) (hq2 : a ≤ n ∧ n ≤ 400) (hq3 : ∀ i : Nat, 0 ≤ t i ∧ t i ≤ 255) (hq4 : F 16 = (b : Int)) (hq5 : b ≤ n) (hq6 : rOk r) : gM yX12_readsVillage wsX12_readsVillage ({ frames := 5, cells := 0, slots := 0, locals := 108 }) E B N v [.ref (B + 161)] (po0 N (fun ρ v' => ∃ (res : Int), ∃ (F2 : Nat → Int), ∃ (V2 : Int), ∃ (r2 : Nat → Int), (nxF 1 F F2) ∧ ((∃ (x2 : Nat → Int) (e2 : Nat), (pV t n r b a) = .ok (x2, e2) ∧ res = 1 ∧ F2 15 = (e2 : Int) ∧ F2 6 = F 6 ∧ r2 = x2) ∨ (∃ (f2 : Int) (p2 : Nat), (pV t n r b a) = .error (f2, p2) ∧ res = 0 ∧ F2 6 = f2 ∧ F2 16 = (p2 : Int) ∧ p2 ≤ n)) ∧ ρ = some (.int (zI res)) ∧ (va_up (va_up v 161 (oM B F2 V2)) 171 (iarr E 138 r2)) = v')) := by
  refine x_met (nm := "readsVillage") (by decide +kernel) rfl (Nat.le_of_ble_eq_true rfl) rfl (fun Γ K KR hnL hnm => ?_)
  show XW Γ N v [(0, .ref (B + 161))] 0 0 0 []
  have hr3 := hq6.1.2.2.2.1
  refine x_v (cel_pad hc0) ?_
  refine x_v (cel_pad (cel_ne hc2 (by decide))) ?_
  refine x_aload_n (pc := 0) 0 K rfl rfl dX12_readsVillage_0 ?_
  refine x_aload_n (pc := 1) 0 K rfl rfl dX12_readsVillage_1 ?_
  refine x_get (pc := 2) (C := RX12) (T := TX12) (n := 26) (ci := 11) (idx := 38) (ref := "BorderBedsModel") (x := .ref (B + 171))  K (cel_ne (cel_self hc0.1) (by decide)) rfl (by decide +kernel) 20 (by decide) (by decide +kernel) rfl rfl dX12_readsVillage_2 ?_
  refine x_iconst (pc := 5) K dX12_readsVillage_5 ?_
  refine x_iald (pc := 6) 3 K (cel_self hc2.1) rfl (by omega) (by decide) dX12_readsVillage_6 ?_
  refine x_bipush (pc := 7) K (by decide) dX12_readsVillage_7 ?_
  refine x_icmp_ge (pc := 9) (tgt := 16) K (by omega) (by decide) dX12_readsVillage_9 (by decide) (fun h_9 => ?_) (fun h_9 => ?_)
  · skip
    refine x_iconst (pc := 16) K dX12_readsVillage_16 ?_
    refine x_callV (pc := 17) (C := RX12) (T := TX12) (n := 26) (ci := 11) (As := [.int (zI 0)]) K (c_X12_hasRoom (E := E) (B := B) (N := N)   (cel_ne (cel_self hc0.1) (by decide)) (by omega)) gX12_readsVillage_X12_hasRoom rfl (na := 1) (by decide +kernel) rfl ⟨(Nat.le_of_ble_eq_true rfl), (Nat.le_of_ble_eq_true rfl)⟩ (cel_ne (cel_self hc0.1) (by decide)) rfl (st := []) rfl (Nat.le_of_ble_eq_true rfl) ⟨(Nat.le_of_ble_eq_true rfl), (Nat.le_of_ble_eq_true rfl)⟩ dX12_readsVillage_17 (fun r17 N17 w17 hpo17 hN17 => ?_)
    obtain ⟨rfl, f2_17, hp17_0, rfl, rfl⟩ := hpo17
    refine x_v (w := (va_up (va_up v 161 (oM B (va_up F 6 f2_17) V)) 171 (iarr E 138 r))) (up_at1 (by decide)).symm ?_
    refine x_st (st' := [.int (zI 0)]) rfl ?_
    have hf17 : f2_17 = 3 := by rw [hp17_0]; first | exact if_pos rfl | exact if_neg (by omega)
    refine x_if_eq (pc := 20) (tgt := 40) K (by omega) dX12_readsVillage_20 (by decide) (fun h_20 => ?_) (fun h_20 => ?_)
    · skip
      refine x_iconst (pc := 40) K dX12_readsVillage_40 ?_
      refine x_zret (pc := 41) K KR (by omega) (Nat.le_of_ble_eq_true rfl) (Nat.le_of_ble_eq_true rfl) rfl dX12_readsVillage_41 ?_
      exact ⟨rfl, 0, (va_up F 6 f2_17), V, r, (fun k a0 b0 c0 d0 e0 f0 => va_up_ne _ _ a0), (Or.inr ⟨3, b, by unfold pV; rw [if_neg (by omega)], rfl, by rw [va_up_self]; exact hf17, by rw [va_up_ne _ _ (by omega)]; exact hq4, hq5⟩), rfl, rfl⟩
    · skip
      exfalso; omega
  · skip
    refine x_iconst (pc := 12) K dX12_readsVillage_12 ?_
    refine x_goto (pc := 13) (tgt := 17) K dX12_readsVillage_13 (by decide) ?_
    refine x_callV (pc := 17) (C := RX12) (T := TX12) (n := 26) (ci := 11) (As := [.int (zI 1)]) K (c_X12_hasRoom (E := E) (B := B) (N := N)   (cel_ne (cel_self hc0.1) (by decide)) (by omega)) gX12_readsVillage_X12_hasRoom rfl (na := 1) (by decide +kernel) rfl ⟨(Nat.le_of_ble_eq_true rfl), (Nat.le_of_ble_eq_true rfl)⟩ (cel_ne (cel_self hc0.1) (by decide)) rfl (st := []) rfl (Nat.le_of_ble_eq_true rfl) ⟨(Nat.le_of_ble_eq_true rfl), (Nat.le_of_ble_eq_true rfl)⟩ dX12_readsVillage_17 (fun r17 N17 w17 hpo17 hN17 => ?_)
    obtain ⟨rfl, f2_17, hp17_0, rfl, rfl⟩ := hpo17
    refine x_v (w := (va_up (va_up v 161 (oM B (va_up F 6 f2_17) V)) 171 (iarr E 138 r))) (up_at1 (by decide)).symm ?_
    refine x_st (st' := [.int (zI 1)]) rfl ?_
    have hf17 : f2_17 = F 6 := by rw [hp17_0]; first | exact if_pos rfl | exact if_neg (by omega)
    refine x_if_eq (pc := 20) (tgt := 40) K (by omega) dX12_readsVillage_20 (by decide) (fun h_20 => ?_) (fun h_20 => ?_)
    · skip
      exfalso; omega
    · skip
      refine x_aload_n (pc := 23) 0 K rfl rfl dX12_readsVillage_23 ?_
      refine x_callV (pc := 24) (C := RX12) (T := TX12) (n := 26) (ci := 11) (As := []) K (c_X12_takesCell (E := E) (B := B) (N := N) (a := a) (n := n) (F := (va_up F 6 f2_17))  (cel_ne (cel_self hc0.1) (by decide)) (cel_ne (cel_ne hc1 (by decide)) (by decide)) (by (repeat rw [va_up_ne _ _ (by omega)]); exact hq0) (by (repeat rw [va_up_ne _ _ (by omega)]); exact hq1) (by omega) hq3) gX12_readsVillage_X12_takesCell rfl (na := 0) (by decide +kernel) rfl ⟨(Nat.le_of_ble_eq_true rfl), (Nat.le_of_ble_eq_true rfl)⟩ (cel_ne (cel_self hc0.1) (by decide)) rfl (st := []) rfl (Nat.le_of_ble_eq_true rfl) ⟨(Nat.le_of_ble_eq_true rfl), (Nat.le_of_ble_eq_true rfl)⟩ dX12_readsVillage_24 (fun r24 N24 w24 hpo24 hN24 => ?_)
      obtain ⟨rfl, res_24, F2_24, V2_24, hp24_0, hp24_1, rfl, rfl⟩ := hpo24
      refine x_v (w := (va_up (va_up v 161 (oM B F2_24 V2_24)) 171 (iarr E 138 r))) (up_at1 (by decide)).symm ?_
      refine x_st (st' := [.int (zI res_24)]) rfl ?_
      have hn24 : nxF 1 F F2_24 := fun k a0 b0 c0 d0 e0 f0 => (hp24_0 k a0 b0 c0 d0 e0 f0).trans (va_up_ne _ _ a0)
      have n19_24 := hn24 19 (by omega) (by omega) (by omega) (by omega) (by omega) (by omega)
      refine x_if_eq (pc := 27) (tgt := 40) K (by omega) dX12_readsVillage_27 (by decide) (fun h_27 => ?_) (fun h_27 => ?_)
      · skip
        obtain ⟨f2, p2, hx2, -, hf2, hp2, hl2⟩ := hp24_1.resolve_left (fun ⟨_, _, _, q, _⟩ => by omega)
        refine x_iconst (pc := 40) K dX12_readsVillage_40 ?_
        refine x_zret (pc := 41) K KR (by omega) (Nat.le_of_ble_eq_true rfl) (Nat.le_of_ble_eq_true rfl) rfl dX12_readsVillage_41 ?_
        exact ⟨rfl, 0, F2_24, V2_24, r, hn24, (Or.inr ⟨f2, p2, by unfold pV pVil; rw [if_pos (by omega)]; rw [pThen_err hx2]; rfl, rfl, hf2, hp2, hl2⟩), rfl, rfl⟩
      · skip
        obtain ⟨x24, e24, hx24, -, ha24, hf24, hv24⟩ := hp24_1.resolve_right (fun ⟨_, _, _, q, _⟩ => by omega)
        have ho24 := pCell_ok hx24 (by omega)
        refine x_aload_n (pc := 30) 0 K rfl rfl dX12_readsVillage_30 ?_
        refine x_iconst (pc := 31) K dX12_readsVillage_31 ?_
        refine x_bipush (pc := 32) K (by decide) dX12_readsVillage_32 ?_
        refine x_callV (pc := 34) (C := RX12) (T := TX12) (n := 26) (ci := 11) (As := [.int (zI 1), .int (zI 99)]) K (c_X12_number (E := E) (B := B) (N := N) (a := e24) (n := n) (F := F2_24)  (cel_ne (cel_self hc0.1) (by decide)) (cel_ne (cel_ne hc1 (by decide)) (by decide)) (by exact ha24) (by omega) (by omega) hq3 (by omega) (by omega)) gX12_readsVillage_X12_number rfl (na := 2) (by decide +kernel) rfl ⟨(Nat.le_of_ble_eq_true rfl), (Nat.le_of_ble_eq_true rfl)⟩ (cel_ne (cel_self hc0.1) (by decide)) rfl (st := []) rfl (Nat.le_of_ble_eq_true rfl) ⟨(Nat.le_of_ble_eq_true rfl), (Nat.le_of_ble_eq_true rfl)⟩ dX12_readsVillage_34 (fun r34 N34 w34 hpo34 hN34 => ?_)
        obtain ⟨rfl, res_34, F2_34, V2_34, hp34_0, hp34_1, rfl, rfl⟩ := hpo34
        refine x_v (w := (va_up (va_up v 161 (oM B F2_34 V2_34)) 171 (iarr E 138 r))) (up_at1 (by decide)).symm ?_
        refine x_st (st' := [.int (zI res_34)]) rfl ?_
        have hn34 : nxF 1 F F2_34 := nxF_t hn24 (fun k a0 b0 c0 d0 e0 f0 => hp34_0 k a0 b0 c0 d0 (by omega) (by omega)) (by omega)
        have n19_34 := hn34 19 (by omega) (by omega) (by omega) (by omega) (by omega) (by omega)
        have n22_34 := hp34_0 22 (by omega) (by omega) (by omega) (by omega) (by omega) (by omega)
        refine x_if_ne (pc := 37) (tgt := 42) K (by omega) dX12_readsVillage_37 (by decide) (fun h_37 => ?_) (fun h_37 => ?_)
        · skip
          obtain ⟨x34, e34, hx34, -, ha34, hf34, hv34⟩ := hp34_1.resolve_right (fun ⟨_, _, _, q, _⟩ => by omega)
          have ho34 := pNum_ok hx34 (by omega)
          refine x_aload_n (pc := 42) 0 K rfl rfl dX12_readsVillage_42 ?_
          refine x_get (pc := 43) (C := RX12) (T := TX12) (n := 26) (ci := 11) (idx := 38) (ref := "BorderBedsModel") (x := .ref (B + 171))  K (cel_ne (cel_self hc0.1) (by decide)) rfl (by decide +kernel) 20 (by decide) (by decide +kernel) rfl rfl dX12_readsVillage_43 ?_
          refine x_bipush (pc := 46) K (by decide) dX12_readsVillage_46 ?_
          refine x_aload_n (pc := 48) 0 K rfl rfl dX12_readsVillage_48 ?_
          refine x_get (pc := 49) (C := RX12) (T := TX12) (n := 26) (ci := 11) (idx := 129) (ref := "BorderBedsModel") (x := .int (zI (F2_34 22)))  K (cel_ne (cel_self hc0.1) (by decide)) rfl (by decide +kernel) 22 (by decide) (by decide +kernel) rfl rfl dX12_readsVillage_49 ?_
          refine x_iadd (pc := 52) K dX12_readsVillage_52 ?_
          refine x_dup2 (pc := 53) K rfl rfl dX12_readsVillage_53 ?_
          refine x_iald (pc := 54) (((73 + (F2_34 22))).toNat) K (cel_self hc2.1) (by omega) (by omega) (by decide) dX12_readsVillage_54 ?_
          refine x_aload_n (pc := 55) 0 K rfl rfl dX12_readsVillage_55 ?_
          refine x_get (pc := 56) (C := RX12) (T := TX12) (n := 26) (ci := 11) (idx := 103) (ref := "BorderBedsModel") (x := .long (zL V2_34))  K (cel_ne (cel_self hc0.1) (by decide)) rfl (by decide +kernel) 18 (by decide) (by decide +kernel) rfl rfl dX12_readsVillage_56 ?_
          refine x_l2i (pc := 59) K dX12_readsVillage_59 ?_
          refine x_iadd (pc := 60) K dX12_readsVillage_60 ?_
          refine x_iast (pc := 61) (((73 + (F2_34 22))).toNat) K (cel_self hc2.1) (by omega) (by omega) (by decide) dX12_readsVillage_61 ?_
          refine x_v (w := (va_up (va_up v 161 (oM B F2_34 V2_34)) 171 (iarr E 138 (va_up r (((73 + (F2_34 22))).toNat) ((r (((73 + (F2_34 22))).toNat)) + V2_34))))) (up_at0).symm ?_
          refine x_aload_n (pc := 62) 0 K rfl rfl dX12_readsVillage_62 ?_
          refine x_get (pc := 63) (C := RX12) (T := TX12) (n := 26) (ci := 11) (idx := 38) (ref := "BorderBedsModel") (x := .ref (B + 171))  K (cel_ne (cel_self hc0.1) (by decide)) rfl (by decide +kernel) 20 (by decide) (by decide +kernel) rfl rfl dX12_readsVillage_63 ?_
          refine x_iconst (pc := 66) K dX12_readsVillage_66 ?_
          refine x_dup2 (pc := 67) K rfl rfl dX12_readsVillage_67 ?_
          refine x_iald (pc := 68) 3 K (cel_self hc2.1) rfl (by omega) (by decide) dX12_readsVillage_68 ?_
          refine x_iconst (pc := 69) K dX12_readsVillage_69 ?_
          refine x_iadd (pc := 70) K dX12_readsVillage_70 ?_
          refine x_iast (pc := 71) 3 K (cel_self hc2.1) rfl (by omega) (by decide) dX12_readsVillage_71 ?_
          refine x_v (w := (va_up (va_up v 161 (oM B F2_34 V2_34)) 171 (iarr E 138 (va_up (va_up r (((73 + (F2_34 22))).toNat) ((r (((73 + (F2_34 22))).toNat)) + V2_34)) 3 (((va_up r (((73 + (F2_34 22))).toNat) ((r (((73 + (F2_34 22))).toNat)) + V2_34)) 3) + 1))))) (up_at0).symm ?_
          have hRR : va_up (va_up r (((73 + (F2_34 22))).toNat) ((r (((73 + (F2_34 22))).toNat)) + V2_34)) 3 (((va_up r (((73 + (F2_34 22))).toNat) ((r (((73 + (F2_34 22))).toNat)) + V2_34)) 3) + 1) = (vilR r x24 x34) := by unfold vilR; rw [show (73 + F2_34 22).toNat = 73 + x24.toNat by omega, hv34, va_up_ne r _ (show 3 ≠ 73 + x24.toNat by omega)]
          refine x_v (w := (va_up (va_up v 161 (oM B F2_34 V2_34)) 171 (iarr E 138 (vilR r x24 x34)))) (by rw [hRR]) ?_
          refine x_aload_n (pc := 72) 0 K rfl rfl dX12_readsVillage_72 ?_
          refine x_callV (pc := 73) (C := RX12) (T := TX12) (n := 26) (ci := 11) (As := []) K (c_X12_ends (E := E) (B := B) (N := N) (a := e34) (n := n) (F := F2_34)  (cel_ne (cel_self hc0.1) (by decide)) (cel_ne (cel_ne hc1 (by decide)) (by decide)) (by exact ha34) (by omega) (by omega) hq3) gX12_readsVillage_X12_ends rfl (na := 0) (by decide +kernel) rfl ⟨(Nat.le_of_ble_eq_true rfl), (Nat.le_of_ble_eq_true rfl)⟩ (cel_ne (cel_self hc0.1) (by decide)) rfl (st := []) rfl (Nat.le_of_ble_eq_true rfl) ⟨(Nat.le_of_ble_eq_true rfl), (Nat.le_of_ble_eq_true rfl)⟩ dX12_readsVillage_73 (fun r73 N73 w73 hpo73 hN73 => ?_)
          obtain ⟨rfl, res_73, F2_73, V2_73, hp73_0, hp73_1, rfl, rfl⟩ := hpo73
          refine x_v (w := (va_up (va_up v 161 (oM B F2_73 V2_73)) 171 (iarr E 138 (vilR r x24 x34)))) (up_at1 (by decide)).symm ?_
          refine x_st (st' := [.int (zI res_73)]) rfl ?_
          have hn73 : nxF 1 F F2_73 := nxF_t hn34 (fun k a0 b0 c0 d0 e0 f0 => hp73_0 k a0 b0 c0 d0 (by omega) (by omega)) (by omega)
          refine x_zret (pc := 76) K KR (by omega) (Nat.le_of_ble_eq_true rfl) (Nat.le_of_ble_eq_true rfl) (nb_ok (by omega)) dX12_readsVillage_76 ?_
          have hv : pV t n r b a = pThen (pSig t n e34) fun _ e => .ok (vilR r x24 x34, e) := by
            unfold pV pVil
            rw [if_pos (by omega), pThen_ok hx24, pThen_ok hx34]
            cases pSig t n e34 <;> rfl
          rcases hp73_1 with ⟨x7, e7, hx7, hr7, ha7, hf7⟩ | ⟨f2, p2, hx2, hr2, hf2, hp2, hl2⟩
          · exact ⟨rfl, res_73, F2_73, V2_73, (vilR r x24 x34), hn73, (Or.inl ⟨vilR r x24 x34, e7, by rw [hv, pThen_ok hx7], hr7, ha7, by rw [hf7, hf34, hf24, va_up_self, hf17], rfl⟩), rfl, rfl⟩
          · exact ⟨rfl, res_73, F2_73, V2_73, (vilR r x24 x34), hn73, (Or.inr ⟨f2, p2, by rw [hv, pThen_err hx2], hr2, hf2, hp2, hl2⟩), rfl, rfl⟩
        · skip
          obtain ⟨f2, p2, hx2, -, hf2, hp2, hl2⟩ := hp34_1.resolve_left (fun ⟨_, _, _, q, _⟩ => by omega)
          refine x_iconst (pc := 40) K dX12_readsVillage_40 ?_
          refine x_zret (pc := 41) K KR (by omega) (Nat.le_of_ble_eq_true rfl) (Nat.le_of_ble_eq_true rfl) rfl dX12_readsVillage_41 ?_
          exact ⟨rfl, 0, F2_34, V2_34, r, hn34, (Or.inr ⟨f2, p2, by unfold pV pVil; rw [if_pos (by omega)]; rw [pThen_ok hx24, pThen_err hx2]; rfl, rfl, hf2, hp2, hl2⟩), rfl, rfl⟩

set_option maxRecDepth 100000 in
set_option maxHeartbeats 4000000 in
theorem c_X12_readsGuard {E : XE} {B N : Nat} {v : Nat → va_E} {F t r : Nat → Int} {V : Int} {a b n : Nat} {g : Int} (hc0 : Cel N v 161 (oM B F V)) (hc1 : Cel N v 165 (iarr E 400 t)) (hc2 : Cel N v 171 (iarr E 138 r)) (hq0 : F 15 = (a : Int)) (hq1 : F 19 = (n : Int)) (hq2 : a ≤ n ∧ n ≤ 400) (hq3 : ∀ i : Nat, 0 ≤ t i ∧ t i ≤ 255) (hq4 : F 16 = (b : Int)) (hq5 : b ≤ n) (hq6 : rOk r) (hq7 : F 21 = g ∧ 0 ≤ g ∧ g ≤ 8) : gM yX12_readsGuard wsX12_readsGuard ({ frames := 5, cells := 0, slots := 0, locals := 108 }) E B N v [.ref (B + 161)] (po0 N (fun ρ v' => ∃ (res : Int), ∃ (F2 : Nat → Int), ∃ (V2 : Int), ∃ (r2 : Nat → Int), (nxF 2 F F2) ∧ ((∃ (x2 : Nat → Int) (e2 : Nat), (pG t n r g b a) = .ok (x2, e2) ∧ res = 1 ∧ F2 15 = (e2 : Int) ∧ F2 6 = F 6 ∧ r2 = x2 ∧ F2 21 = g + 1) ∨ (∃ (f2 : Int) (p2 : Nat), (pG t n r g b a) = .error (f2, p2) ∧ res = 0 ∧ F2 6 = f2 ∧ F2 16 = (p2 : Int) ∧ p2 ≤ n)) ∧ ρ = some (.int (zI res)) ∧ (va_up (va_up v 161 (oM B F2 V2)) 171 (iarr E 138 r2)) = v')) := by
  refine x_met (nm := "readsGuard") (by decide +kernel) rfl (Nat.le_of_ble_eq_true rfl) rfl (fun Γ K KR hnL hnm => ?_)
  show XW Γ N v [(0, .ref (B + 161))] 0 0 0 []
  refine x_v (cel_pad hc0) ?_
  refine x_v (cel_pad (cel_ne hc2 (by decide))) ?_
  refine x_aload_n (pc := 0) 0 K rfl rfl dX12_readsGuard_0 ?_
  refine x_aload_n (pc := 1) 0 K rfl rfl dX12_readsGuard_1 ?_
  refine x_get (pc := 2) (C := RX12) (T := TX12) (n := 26) (ci := 11) (idx := 142) (ref := "BorderBedsModel") (x := .int (zI (F 21)))  K (cel_ne (cel_self hc0.1) (by decide)) rfl (by decide +kernel) 21 (by decide) (by decide +kernel) rfl rfl dX12_readsGuard_2 ?_
  refine x_bipush (pc := 5) K (by decide) dX12_readsGuard_5 ?_
  refine x_icmp_ge (pc := 7) (tgt := 14) K (by omega) (by decide) dX12_readsGuard_7 (by decide) (fun h_7 => ?_) (fun h_7 => ?_)
  · skip
    refine x_iconst (pc := 14) K dX12_readsGuard_14 ?_
    refine x_callV (pc := 15) (C := RX12) (T := TX12) (n := 26) (ci := 11) (As := [.int (zI 0)]) K (c_X12_hasRoom (E := E) (B := B) (N := N)   (cel_ne (cel_self hc0.1) (by decide)) (by omega)) gX12_readsGuard_X12_hasRoom rfl (na := 1) (by decide +kernel) rfl ⟨(Nat.le_of_ble_eq_true rfl), (Nat.le_of_ble_eq_true rfl)⟩ (cel_ne (cel_self hc0.1) (by decide)) rfl (st := []) rfl (Nat.le_of_ble_eq_true rfl) ⟨(Nat.le_of_ble_eq_true rfl), (Nat.le_of_ble_eq_true rfl)⟩ dX12_readsGuard_15 (fun r15 N15 w15 hpo15 hN15 => ?_)
    obtain ⟨rfl, f2_15, hp15_0, rfl, rfl⟩ := hpo15
    refine x_v (w := (va_up (va_up v 161 (oM B (va_up F 6 f2_15) V)) 171 (iarr E 138 r))) (up_at1 (by decide)).symm ?_
    refine x_st (st' := [.int (zI 0)]) rfl ?_
    have hf15 : f2_15 = 3 := by rw [hp15_0]; first | exact if_pos rfl | exact if_neg (by omega)
    refine x_if_eq (pc := 18) (tgt := 28) K (by omega) dX12_readsGuard_18 (by decide) (fun h_18 => ?_) (fun h_18 => ?_)
    · skip
      refine x_iconst (pc := 28) K dX12_readsGuard_28 ?_
      refine x_zret (pc := 29) K KR (by omega) (Nat.le_of_ble_eq_true rfl) (Nat.le_of_ble_eq_true rfl) rfl dX12_readsGuard_29 ?_
      exact ⟨rfl, 0, (va_up F 6 f2_15), V, r, (fun k a0 b0 c0 d0 e0 f0 => va_up_ne _ _ a0), (Or.inr ⟨3, b, by unfold pG; rw [if_neg (by omega)], rfl, by rw [va_up_self]; exact hf15, by rw [va_up_ne _ _ (by omega)]; exact hq4, hq5⟩), rfl, rfl⟩
    · skip
      exfalso; omega
  · skip
    refine x_iconst (pc := 10) K dX12_readsGuard_10 ?_
    refine x_goto (pc := 11) (tgt := 15) K dX12_readsGuard_11 (by decide) ?_
    refine x_callV (pc := 15) (C := RX12) (T := TX12) (n := 26) (ci := 11) (As := [.int (zI 1)]) K (c_X12_hasRoom (E := E) (B := B) (N := N)   (cel_ne (cel_self hc0.1) (by decide)) (by omega)) gX12_readsGuard_X12_hasRoom rfl (na := 1) (by decide +kernel) rfl ⟨(Nat.le_of_ble_eq_true rfl), (Nat.le_of_ble_eq_true rfl)⟩ (cel_ne (cel_self hc0.1) (by decide)) rfl (st := []) rfl (Nat.le_of_ble_eq_true rfl) ⟨(Nat.le_of_ble_eq_true rfl), (Nat.le_of_ble_eq_true rfl)⟩ dX12_readsGuard_15 (fun r15 N15 w15 hpo15 hN15 => ?_)
    obtain ⟨rfl, f2_15, hp15_0, rfl, rfl⟩ := hpo15
    refine x_v (w := (va_up (va_up v 161 (oM B (va_up F 6 f2_15) V)) 171 (iarr E 138 r))) (up_at1 (by decide)).symm ?_
    refine x_st (st' := [.int (zI 1)]) rfl ?_
    have hf15 : f2_15 = F 6 := by rw [hp15_0]; first | exact if_pos rfl | exact if_neg (by omega)
    refine x_if_eq (pc := 18) (tgt := 28) K (by omega) dX12_readsGuard_18 (by decide) (fun h_18 => ?_) (fun h_18 => ?_)
    · skip
      exfalso; omega
    · skip
      refine x_aload_n (pc := 21) 0 K rfl rfl dX12_readsGuard_21 ?_
      refine x_callV (pc := 22) (C := RX12) (T := TX12) (n := 26) (ci := 11) (As := []) K (c_X12_takesCell (E := E) (B := B) (N := N) (a := a) (n := n) (F := (va_up F 6 f2_15))  (cel_ne (cel_self hc0.1) (by decide)) (cel_ne (cel_ne hc1 (by decide)) (by decide)) (by (repeat rw [va_up_ne _ _ (by omega)]); exact hq0) (by (repeat rw [va_up_ne _ _ (by omega)]); exact hq1) (by omega) hq3) gX12_readsGuard_X12_takesCell rfl (na := 0) (by decide +kernel) rfl ⟨(Nat.le_of_ble_eq_true rfl), (Nat.le_of_ble_eq_true rfl)⟩ (cel_ne (cel_self hc0.1) (by decide)) rfl (st := []) rfl (Nat.le_of_ble_eq_true rfl) ⟨(Nat.le_of_ble_eq_true rfl), (Nat.le_of_ble_eq_true rfl)⟩ dX12_readsGuard_22 (fun r22 N22 w22 hpo22 hN22 => ?_)
      obtain ⟨rfl, res_22, F2_22, V2_22, hp22_0, hp22_1, rfl, rfl⟩ := hpo22
      refine x_v (w := (va_up (va_up v 161 (oM B F2_22 V2_22)) 171 (iarr E 138 r))) (up_at1 (by decide)).symm ?_
      refine x_st (st' := [.int (zI res_22)]) rfl ?_
      have hn22 : nxF 1 F F2_22 := fun k a0 b0 c0 d0 e0 f0 => (hp22_0 k a0 b0 c0 d0 e0 f0).trans (va_up_ne _ _ a0)
      have n19_22 := hn22 19 (by omega) (by omega) (by omega) (by omega) (by omega) (by omega)
      have n21_22 := hn22 21 (by omega) (by omega) (by omega) (by omega) (by omega) (by omega)
      have hn22b : nxF 2 F F2_22 := nxF_t hn22 (nxF_r 2 _) (by omega)
      refine x_if_ne (pc := 25) (tgt := 30) K (by omega) dX12_readsGuard_25 (by decide) (fun h_25 => ?_) (fun h_25 => ?_)
      · skip
        obtain ⟨x22, e22, hx22, -, ha22, hf22, hv22⟩ := hp22_1.resolve_right (fun ⟨_, _, _, q, _⟩ => by omega)
        have ho22 := pCell_ok hx22 (by omega)
        refine x_aload_n (pc := 30) 0 K rfl rfl dX12_readsGuard_30 ?_
        refine x_get (pc := 31) (C := RX12) (T := TX12) (n := 26) (ci := 11) (idx := 38) (ref := "BorderBedsModel") (x := .ref (B + 171))  K (cel_ne (cel_self hc0.1) (by decide)) rfl (by decide +kernel) 20 (by decide) (by decide +kernel) rfl rfl dX12_readsGuard_31 ?_
        refine x_bipush (pc := 34) K (by decide) dX12_readsGuard_34 ?_
        refine x_aload_n (pc := 36) 0 K rfl rfl dX12_readsGuard_36 ?_
        refine x_get (pc := 37) (C := RX12) (T := TX12) (n := 26) (ci := 11) (idx := 129) (ref := "BorderBedsModel") (x := .int (zI (F2_22 22)))  K (cel_ne (cel_self hc0.1) (by decide)) rfl (by decide +kernel) 22 (by decide) (by decide +kernel) rfl rfl dX12_readsGuard_37 ?_
        refine x_iadd (pc := 40) K dX12_readsGuard_40 ?_
        refine x_iconst (pc := 41) K dX12_readsGuard_41 ?_
        refine x_iast (pc := 42) (((25 + (F2_22 22))).toNat) K (cel_self hc2.1) (by omega) (by omega) (by decide) dX12_readsGuard_42 ?_
        refine x_v (w := (va_up (va_up v 161 (oM B F2_22 V2_22)) 171 (iarr E 138 (va_up r (((25 + (F2_22 22))).toNat) 1)))) (up_at0).symm ?_
        refine x_aload_n (pc := 43) 0 K rfl rfl dX12_readsGuard_43 ?_
        refine x_dup (pc := 44) K rfl dX12_readsGuard_44 ?_
        refine x_get (pc := 45) (C := RX12) (T := TX12) (n := 26) (ci := 11) (idx := 142) (ref := "BorderBedsModel") (x := .int (zI (F2_22 21)))  K (cel_ne (cel_self hc0.1) (by decide)) rfl (by decide +kernel) 21 (by decide) (by decide +kernel) rfl rfl dX12_readsGuard_45 ?_
        refine x_iconst (pc := 48) K dX12_readsGuard_48 ?_
        refine x_iadd (pc := 49) K dX12_readsGuard_49 ?_
        refine x_put (pc := 50) (C := RX12) (T := TX12) (n := 26) (ci := 11) (idx := 142) (ref := "BorderBedsModel") (ty := .int)  K (cel_ne (cel_self hc0.1) (by decide)) rfl (by decide +kernel) tyX12 tyX12_ok nmX12 21 (by decide) (by decide +kernel) rfl rfl (by decide +kernel) rfl rfl (Nat.le_of_ble_eq_true rfl) dX12_readsGuard_50 ?_
        refine x_v (w := (va_up (va_up v 161 (oM B (va_up F2_22 21 ((F2_22 21) + 1)) V2_22)) 171 (iarr E 138 (va_up r (((25 + (F2_22 22))).toNat) 1)))) (up_at1 (by decide)).symm ?_
        have hRR : va_up r (((25 + (F2_22 22))).toNat) 1 = (guaR r x22) := by unfold guaR; rw [show (25 + F2_22 22).toNat = 25 + x22.toNat by omega]
        refine x_v (w := (va_up (va_up v 161 (oM B (va_up F2_22 21 ((F2_22 21) + 1)) V2_22)) 171 (iarr E 138 (guaR r x22)))) (by rw [hRR]) ?_
        refine x_aload_n (pc := 53) 0 K rfl rfl dX12_readsGuard_53 ?_
        refine x_callV (pc := 54) (C := RX12) (T := TX12) (n := 26) (ci := 11) (As := []) K (c_X12_ends (E := E) (B := B) (N := N) (a := e22) (n := n) (F := (va_up F2_22 21 (F2_22 21 + 1)))  (cel_ne (cel_self hc0.1) (by decide)) (cel_ne (cel_ne hc1 (by decide)) (by decide)) (by (repeat rw [va_up_ne _ _ (by omega)]); exact ha22) (by (repeat rw [va_up_ne _ _ (by omega)]); omega) (by omega) hq3) gX12_readsGuard_X12_ends rfl (na := 0) (by decide +kernel) rfl ⟨(Nat.le_of_ble_eq_true rfl), (Nat.le_of_ble_eq_true rfl)⟩ (cel_ne (cel_self hc0.1) (by decide)) rfl (st := []) rfl (Nat.le_of_ble_eq_true rfl) ⟨(Nat.le_of_ble_eq_true rfl), (Nat.le_of_ble_eq_true rfl)⟩ dX12_readsGuard_54 (fun r54 N54 w54 hpo54 hN54 => ?_)
        obtain ⟨rfl, res_54, F2_54, V2_54, hp54_0, hp54_1, rfl, rfl⟩ := hpo54
        refine x_v (w := (va_up (va_up v 161 (oM B F2_54 V2_54)) 171 (iarr E 138 (guaR r x22)))) (up_at1 (by decide)).symm ?_
        refine x_st (st' := [.int (zI res_54)]) rfl ?_
        have hn54 : nxF 2 F F2_54 := nxF_t (nxF_u (m := 2) hn22b (by omega) (by omega)) (fun k a0 b0 c0 d0 e0 f0 => hp54_0 k a0 b0 c0 d0 (by omega) (by omega)) (by omega)
        have n21_54 := hp54_0 21 (by omega) (by omega) (by omega) (by omega) (by omega) (by omega)
        rw [va_up_self] at n21_54
        refine x_zret (pc := 57) K KR (by omega) (Nat.le_of_ble_eq_true rfl) (Nat.le_of_ble_eq_true rfl) (nb_ok (by omega)) dX12_readsGuard_57 ?_
        have hv : pG t n r g b a = pThen (pSig t n e22) fun _ e => .ok (guaR r x22, e) := by
          unfold pG pGua
          rw [if_pos (by omega), pThen_ok hx22]
          cases pSig t n e22 <;> rfl
        rcases hp54_1 with ⟨x7, e7, hx7, hr7, ha7, hf7⟩ | ⟨f2, p2, hx2, hr2, hf2, hp2, hl2⟩
        · exact ⟨rfl, res_54, F2_54, V2_54, (guaR r x22), hn54, (Or.inl ⟨guaR r x22, e7, by rw [hv, pThen_ok hx7], hr7, ha7, by rw [hf7, va_up_ne _ _ (by omega), hf22, va_up_self, hf15], rfl, by omega⟩), rfl, rfl⟩
        · exact ⟨rfl, res_54, F2_54, V2_54, (guaR r x22), hn54, (Or.inr ⟨f2, p2, by rw [hv, pThen_err hx2], hr2, hf2, hp2, hl2⟩), rfl, rfl⟩
      · skip
        obtain ⟨f2, p2, hx2, -, hf2, hp2, hl2⟩ := hp22_1.resolve_left (fun ⟨_, _, _, q, _⟩ => by omega)
        refine x_iconst (pc := 28) K dX12_readsGuard_28 ?_
        refine x_zret (pc := 29) K KR (by omega) (Nat.le_of_ble_eq_true rfl) (Nat.le_of_ble_eq_true rfl) rfl dX12_readsGuard_29 ?_
        exact ⟨rfl, 0, F2_22, V2_22, r, hn22b, (Or.inr ⟨f2, p2, by unfold pG pGua; rw [if_pos (by omega), pThen_err hx2]; rfl, rfl, hf2, hp2, hl2⟩), rfl, rfl⟩

set_option maxRecDepth 100000 in
set_option maxHeartbeats 4000000 in
theorem c_X12_kindHere {E : XE} {B N : Nat} {v : Nat → va_E} {F t : Nat → Int} {V : Int} {a n : Nat} (hc0 : Cel N v 161 (oM B F V)) (hc1 : Cel N v 165 (iarr E 400 t)) (hq0 : F 15 = (a : Int)) (hq1 : F 19 = (n : Int)) (hq2 : a ≤ n ∧ n ≤ 400) (hq3 : ∀ i : Nat, 0 ≤ t i ∧ t i ≤ 255) : gM yX12_kindHere wsX12_kindHere ({ frames := 3, cells := 0, slots := 0, locals := 66 }) E B N v [.ref (B + 161)] (po0 N (fun ρ v' => ∃ (res : Int), ∃ (F2 : Nat → Int), ∃ (V2 : Int), (nxF 0 F F2) ∧ (res = kdT t n a) ∧ (F2 15 = (tokE t n a : Int) ∧ F2 16 = (skT t n a : Int) ∧ F2 6 = F 6) ∧ ρ = some (.int (zI res)) ∧ (va_up v 161 (oM B F2 V2)) = v')) := by
  refine x_met (nm := "kindHere") (by decide +kernel) rfl (Nat.le_of_ble_eq_true rfl) rfl (fun Γ K KR hnL hnm => ?_)
  show XW Γ N v [(0, .ref (B + 161))] 0 0 0 []
  have hkr := tokK_rng t n a
  have hvr := tokV_rng (n := n) (a := a) hq3
  have her := tokE_rng (t := t) hq2.1
  have hsr := skT_le (t := t) hq2.1
  refine x_v (cel_pad hc0) ?_
  refine x_aload_n (pc := 0) 0 K rfl rfl dX12_kindHere_0 ?_
  refine x_callV (pc := 1) (C := RX12) (T := TX12) (n := 26) (ci := 11) (As := []) K (c_X12_next (E := E) (B := B) (N := N) (a := a) (n := n)  (cel_self hc0.1) (cel_ne hc1 (by decide)) hq0 hq1 hq2 hq3) gX12_kindHere_X12_next rfl (na := 0) (by decide +kernel) rfl ⟨(Nat.le_of_ble_eq_true rfl), (Nat.le_of_ble_eq_true rfl)⟩ (cel_self hc0.1) rfl (st := []) rfl (Nat.le_of_ble_eq_true rfl) ⟨(Nat.le_of_ble_eq_true rfl), (Nat.le_of_ble_eq_true rfl)⟩ dX12_kindHere_1 (fun r1 N1 w1 hpo1 hN1 => ?_)
  obtain ⟨rfl, rfl, rfl⟩ := hpo1
  refine x_v (w := (va_up v 161 (oM B (va_up (va_up (va_up F 15 (tokE t n a : Int)) 16 (skT t n a : Int)) 17 (tokK t n a)) (tokV t n a)))) (up_at0).symm ?_
  refine x_st (st' := []) rfl ?_
  refine x_aload_n (pc := 4) 0 K rfl rfl dX12_kindHere_4 ?_
  refine x_get (pc := 5) (C := RX12) (T := TX12) (n := 26) (ci := 11) (idx := 100) (ref := "BorderBedsModel") (x := .int (zI (tokK t n a)))  K (cel_self hc0.1) rfl (by decide +kernel) 17 (by decide) (by decide +kernel) rfl rfl dX12_kindHere_5 ?_
  refine x_iconst (pc := 8) K dX12_kindHere_8 ?_
  refine x_icmp_eq (pc := 9) (tgt := 16) K (by omega) (by decide) dX12_kindHere_9 (by decide) (fun h_9 => ?_) (fun h_9 => ?_)
  · skip
    refine x_aload_n (pc := 16) 0 K rfl rfl dX12_kindHere_16 ?_
    refine x_get (pc := 17) (C := RX12) (T := TX12) (n := 26) (ci := 11) (idx := 103) (ref := "BorderBedsModel") (x := .long (zL (tokV t n a)))  K (cel_self hc0.1) rfl (by decide +kernel) 18 (by decide) (by decide +kernel) rfl rfl dX12_kindHere_17 ?_
    refine x_ldc2 (pc := 20) (x := (54740)) (54740) K (by decide) (by decide +kernel) dX12_kindHere_20 ?_
    refine x_lcmp (pc := 23) K (by omega) (by omega) dX12_kindHere_23 ?_
    refine x_if_ne (pc := 24) (tgt := 31) K (cmpZ_rng _ _) dX12_kindHere_24 (by decide) (fun h_24 => ?_) (fun h_24 => ?_)
    · skip
      have h_24 := cz_eq_n h_24
      refine x_aload_n (pc := 31) 0 K rfl rfl dX12_kindHere_31 ?_
      refine x_get (pc := 32) (C := RX12) (T := TX12) (n := 26) (ci := 11) (idx := 103) (ref := "BorderBedsModel") (x := .long (zL (tokV t n a)))  K (cel_self hc0.1) rfl (by decide +kernel) 18 (by decide) (by decide +kernel) rfl rfl dX12_kindHere_32 ?_
      refine x_ldc2 (pc := 35) (x := (5724665)) (5724665) K (by decide) (by decide +kernel) dX12_kindHere_35 ?_
      refine x_lcmp (pc := 38) K (by omega) (by omega) dX12_kindHere_38 ?_
      refine x_if_ne (pc := 39) (tgt := 46) K (cmpZ_rng _ _) dX12_kindHere_39 (by decide) (fun h_39 => ?_) (fun h_39 => ?_)
      · skip
        have h_39 := cz_eq_n h_39
        refine x_aload_n (pc := 46) 0 K rfl rfl dX12_kindHere_46 ?_
        refine x_get (pc := 47) (C := RX12) (T := TX12) (n := 26) (ci := 11) (idx := 103) (ref := "BorderBedsModel") (x := .long (zL (tokV t n a)))  K (cel_self hc0.1) rfl (by decide +kernel) 18 (by decide) (by decide +kernel) rfl rfl dX12_kindHere_47 ?_
        refine x_ldc2 (pc := 50) (x := (679214)) (679214) K (by decide) (by decide +kernel) dX12_kindHere_50 ?_
        refine x_lcmp (pc := 53) K (by omega) (by omega) dX12_kindHere_53 ?_
        refine x_if_ne (pc := 54) (tgt := 61) K (cmpZ_rng _ _) dX12_kindHere_54 (by decide) (fun h_54 => ?_) (fun h_54 => ?_)
        · skip
          have h_54 := cz_eq_n h_54
          refine x_aload_n (pc := 61) 0 K rfl rfl dX12_kindHere_61 ?_
          refine x_get (pc := 62) (C := RX12) (T := TX12) (n := 26) (ci := 11) (idx := 103) (ref := "BorderBedsModel") (x := .long (zL (tokV t n a)))  K (cel_self hc0.1) rfl (by decide +kernel) 18 (by decide) (by decide +kernel) rfl rfl dX12_kindHere_62 ?_
          refine x_ldc2 (pc := 65) (x := (3417476)) (3417476) K (by decide) (by decide +kernel) dX12_kindHere_65 ?_
          refine x_lcmp (pc := 68) K (by omega) (by omega) dX12_kindHere_68 ?_
          refine x_if_ne (pc := 69) (tgt := 76) K (cmpZ_rng _ _) dX12_kindHere_69 (by decide) (fun h_69 => ?_) (fun h_69 => ?_)
          · skip
            have h_69 := cz_eq_n h_69
            refine x_aload_n (pc := 76) 0 K rfl rfl dX12_kindHere_76 ?_
            refine x_get (pc := 77) (C := RX12) (T := TX12) (n := 26) (ci := 11) (idx := 103) (ref := "BorderBedsModel") (x := .long (zL (tokV t n a)))  K (cel_self hc0.1) rfl (by decide +kernel) 18 (by decide) (by decide +kernel) rfl rfl dX12_kindHere_77 ?_
            refine x_ldc2 (pc := 80) (x := (441803)) (441803) K (by decide) (by decide +kernel) dX12_kindHere_80 ?_
            refine x_lcmp (pc := 83) K (by omega) (by omega) dX12_kindHere_83 ?_
            refine x_if_ne (pc := 84) (tgt := 91) K (cmpZ_rng _ _) dX12_kindHere_84 (by decide) (fun h_84 => ?_) (fun h_84 => ?_)
            · skip
              have h_84 := cz_eq_n h_84
              refine x_iconst (pc := 91) K dX12_kindHere_91 ?_
              refine x_iret (pc := 92) K KR (by omega) (Nat.le_of_ble_eq_true rfl) (Nat.le_of_ble_eq_true rfl) dX12_kindHere_92 ?_
              exact ⟨rfl, 0, (va_up (va_up (va_up F 15 (tokE t n a : Int)) 16 (skT t n a : Int)) 17 (tokK t n a)), (tokV t n a), (fun k a0 b0 c0 d0 e0 f0 => by (repeat rw [va_up_ne _ _ (by omega)])), (by unfold kdT; split <;> (try split) <;> (try split) <;> (try split) <;> (try split) <;> (try split) <;> omega), ⟨rfl, rfl, rfl⟩, rfl, rfl⟩
            · skip
              have h_84 := cz_eq h_84
              refine x_iconst (pc := 87) K dX12_kindHere_87 ?_
              refine x_goto (pc := 88) (tgt := 92) K dX12_kindHere_88 (by decide) ?_
              refine x_iret (pc := 92) K KR (by omega) (Nat.le_of_ble_eq_true rfl) (Nat.le_of_ble_eq_true rfl) dX12_kindHere_92 ?_
              exact ⟨rfl, 5, (va_up (va_up (va_up F 15 (tokE t n a : Int)) 16 (skT t n a : Int)) 17 (tokK t n a)), (tokV t n a), (fun k a0 b0 c0 d0 e0 f0 => by (repeat rw [va_up_ne _ _ (by omega)])), (by unfold kdT; split <;> (try split) <;> (try split) <;> (try split) <;> (try split) <;> (try split) <;> omega), ⟨rfl, rfl, rfl⟩, rfl, rfl⟩
          · skip
            have h_69 := cz_eq h_69
            refine x_iconst (pc := 72) K dX12_kindHere_72 ?_
            refine x_goto (pc := 73) (tgt := 92) K dX12_kindHere_73 (by decide) ?_
            refine x_iret (pc := 92) K KR (by omega) (Nat.le_of_ble_eq_true rfl) (Nat.le_of_ble_eq_true rfl) dX12_kindHere_92 ?_
            exact ⟨rfl, 4, (va_up (va_up (va_up F 15 (tokE t n a : Int)) 16 (skT t n a : Int)) 17 (tokK t n a)), (tokV t n a), (fun k a0 b0 c0 d0 e0 f0 => by (repeat rw [va_up_ne _ _ (by omega)])), (by unfold kdT; split <;> (try split) <;> (try split) <;> (try split) <;> (try split) <;> (try split) <;> omega), ⟨rfl, rfl, rfl⟩, rfl, rfl⟩
        · skip
          have h_54 := cz_eq h_54
          refine x_iconst (pc := 57) K dX12_kindHere_57 ?_
          refine x_goto (pc := 58) (tgt := 92) K dX12_kindHere_58 (by decide) ?_
          refine x_iret (pc := 92) K KR (by omega) (Nat.le_of_ble_eq_true rfl) (Nat.le_of_ble_eq_true rfl) dX12_kindHere_92 ?_
          exact ⟨rfl, 3, (va_up (va_up (va_up F 15 (tokE t n a : Int)) 16 (skT t n a : Int)) 17 (tokK t n a)), (tokV t n a), (fun k a0 b0 c0 d0 e0 f0 => by (repeat rw [va_up_ne _ _ (by omega)])), (by unfold kdT; split <;> (try split) <;> (try split) <;> (try split) <;> (try split) <;> (try split) <;> omega), ⟨rfl, rfl, rfl⟩, rfl, rfl⟩
      · skip
        have h_39 := cz_eq h_39
        refine x_iconst (pc := 42) K dX12_kindHere_42 ?_
        refine x_goto (pc := 43) (tgt := 92) K dX12_kindHere_43 (by decide) ?_
        refine x_iret (pc := 92) K KR (by omega) (Nat.le_of_ble_eq_true rfl) (Nat.le_of_ble_eq_true rfl) dX12_kindHere_92 ?_
        exact ⟨rfl, 2, (va_up (va_up (va_up F 15 (tokE t n a : Int)) 16 (skT t n a : Int)) 17 (tokK t n a)), (tokV t n a), (fun k a0 b0 c0 d0 e0 f0 => by (repeat rw [va_up_ne _ _ (by omega)])), (by unfold kdT; split <;> (try split) <;> (try split) <;> (try split) <;> (try split) <;> (try split) <;> omega), ⟨rfl, rfl, rfl⟩, rfl, rfl⟩
    · skip
      have h_24 := cz_eq h_24
      refine x_iconst (pc := 27) K dX12_kindHere_27 ?_
      refine x_goto (pc := 28) (tgt := 92) K dX12_kindHere_28 (by decide) ?_
      refine x_iret (pc := 92) K KR (by omega) (Nat.le_of_ble_eq_true rfl) (Nat.le_of_ble_eq_true rfl) dX12_kindHere_92 ?_
      exact ⟨rfl, 1, (va_up (va_up (va_up F 15 (tokE t n a : Int)) 16 (skT t n a : Int)) 17 (tokK t n a)), (tokV t n a), (fun k a0 b0 c0 d0 e0 f0 => by (repeat rw [va_up_ne _ _ (by omega)])), (by unfold kdT; split <;> (try split) <;> (try split) <;> (try split) <;> (try split) <;> (try split) <;> omega), ⟨rfl, rfl, rfl⟩, rfl, rfl⟩
  · skip
    refine x_iconst (pc := 12) K dX12_kindHere_12 ?_
    refine x_goto (pc := 13) (tgt := 92) K dX12_kindHere_13 (by decide) ?_
    refine x_iret (pc := 92) K KR (by omega) (Nat.le_of_ble_eq_true rfl) (Nat.le_of_ble_eq_true rfl) dX12_kindHere_92 ?_
    exact ⟨rfl, 0, (va_up (va_up (va_up F 15 (tokE t n a : Int)) 16 (skT t n a : Int)) 17 (tokK t n a)), (tokV t n a), (fun k a0 b0 c0 d0 e0 f0 => by (repeat rw [va_up_ne _ _ (by omega)])), (by unfold kdT; split <;> (try split) <;> (try split) <;> (try split) <;> (try split) <;> (try split) <;> omega), ⟨rfl, rfl, rfl⟩, rfl, rfl⟩
