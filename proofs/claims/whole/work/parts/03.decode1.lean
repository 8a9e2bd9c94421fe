theorem dX2_ring_66 : decode cX2_ring 66 = .ok (.invokevirtual 191, 3) := by decide +kernel
theorem dX2_ring_69 : decode cX2_ring 69 = .ok (.aload_n 0, 1) := by decide +kernel
theorem dX2_ring_70 : decode cX2_ring 70 = .ok (.iload_n 2, 1) := by decide +kernel
theorem dX2_ring_71 : decode cX2_ring 71 = .ok (.invokevirtual 195, 3) := by decide +kernel
theorem dX2_ring_74 : decode cX2_ring 74 = .ok (.istore_n 3, 1) := by decide +kernel
theorem dX2_ring_75 : decode cX2_ring 75 = .ok (.iload_n 3, 1) := by decide +kernel
theorem dX2_ring_76 : decode cX2_ring 76 = .ok (.iconst (-1), 1) := by decide +kernel
theorem dX2_ring_77 : decode cX2_ring 77 = .ok (.if_icmp .eq 13, 3) := by decide +kernel
theorem dX2_ring_80 : decode cX2_ring 80 = .ok (.aload_n 0, 1) := by decide +kernel
theorem dX2_ring_81 : decode cX2_ring 81 = .ok (.iload_n 3, 1) := by decide +kernel
theorem dX2_ring_82 : decode cX2_ring 82 = .ok (.iload_n 2, 1) := by decide +kernel
theorem dX2_ring_83 : decode cX2_ring 83 = .ok (.invokevirtual 199, 3) := by decide +kernel
theorem dX2_ring_86 : decode cX2_ring 86 = .ok (.iload_n 2, 1) := by decide +kernel
theorem dX2_ring_87 : decode cX2_ring 87 = .ok (.iload_n 3, 1) := by decide +kernel
theorem dX2_ring_88 : decode cX2_ring 88 = .ok (.isub, 1) := by decide +kernel
theorem dX2_ring_89 : decode cX2_ring 89 = .ok (.ireturn, 1) := by decide +kernel
theorem dX2_ring_90 : decode cX2_ring 90 = .ok (.iinc 2 1, 3) := by decide +kernel
theorem dX2_ring_93 : decode cX2_ring 93 = .ok (.goto (-51), 3) := by decide +kernel
theorem dX2_ring_96 : decode cX2_ring 96 = .ok (.bipush (-2), 2) := by decide +kernel
theorem dX2_ring_98 : decode cX2_ring 98 = .ok (.ireturn, 1) := by decide +kernel
theorem dX2_ringed_0 : decode cX2_ringed 0 = .ok (.aload_n 0, 1) := by decide +kernel
theorem dX2_ringed_1 : decode cX2_ringed 1 = .ok (.getfield 47, 3) := by decide +kernel
theorem dX2_ringed_4 : decode cX2_ringed 4 = .ok (.ifCond .eq 22, 3) := by decide +kernel
theorem dX2_ringed_7 : decode cX2_ringed 7 = .ok (.iload_n 1, 1) := by decide +kernel
theorem dX2_ringed_8 : decode cX2_ringed 8 = .ok (.ifCond .lt 18, 3) := by decide +kernel
theorem dX2_ringed_11 : decode cX2_ringed 11 = .ok (.iload_n 1, 1) := by decide +kernel
theorem dX2_ringed_12 : decode cX2_ringed 12 = .ok (.bipush 8, 2) := by decide +kernel
theorem dX2_ringed_14 : decode cX2_ringed 14 = .ok (.if_icmp .ge 12, 3) := by decide +kernel
theorem dX2_ringed_17 : decode cX2_ringed 17 = .ok (.aload_n 0, 1) := by decide +kernel
theorem dX2_ringed_18 : decode cX2_ringed 18 = .ok (.getfield 44, 3) := by decide +kernel
theorem dX2_ringed_21 : decode cX2_ringed 21 = .ok (.iload_n 1, 1) := by decide +kernel
theorem dX2_ringed_22 : decode cX2_ringed 22 = .ok (.laload, 1) := by decide +kernel
theorem dX2_ringed_23 : decode cX2_ringed 23 = .ok (.goto 6, 3) := by decide +kernel
theorem dX2_ringed_26 : decode cX2_ringed 26 = .ok (.ldc2_w 203, 3) := by decide +kernel
theorem dX2_ringed_29 : decode cX2_ringed 29 = .ok (.lreturn, 1) := by decide +kernel
set_option maxRecDepth 20000 in
theorem ggX2_drawer_X2_isRate : GoodIn wsX2_drawer wsX2_isRate := goodIn_r _ [6] (by decide +kernel) (by decide +kernel)
set_option maxRecDepth 20000 in
theorem gX2_drawer_X2_isRate : GoodIn wsX2_drawer (va_wsS RX2 72 yX2_isRate wsX2_isRate) := goodIn_app (goodIn_of _ (by decide +kernel)) ggX2_drawer_X2_isRate
set_option maxRecDepth 20000 in
theorem ggX2_drawer_X2_isStocked : GoodIn wsX2_drawer wsX2_isStocked := goodIn_r _ [10, 1, 2, 11, 12, 13, 14, 15, 16, 17, 18, 19, 20, 21, 22, 23, 24, 25, 26, 27] (by decide +kernel) (by decide +kernel)
set_option maxRecDepth 20000 in
theorem gX2_drawer_X2_isStocked : GoodIn wsX2_drawer (wsV RX2 205 RX2 yX2_isStocked wsX2_isStocked) := goodIn_app (goodIn_of _ (by decide +kernel)) ggX2_drawer_X2_isStocked
theorem dX2_drawer_0 : decode cX2_drawer 0 = .ok (.iload_n 1, 1) := by decide +kernel
theorem dX2_drawer_1 : decode cX2_drawer 1 = .ok (.invokestatic 72, 3) := by decide +kernel
theorem dX2_drawer_4 : decode cX2_drawer 4 = .ok (.ifCond .eq 20, 3) := by decide +kernel
theorem dX2_drawer_7 : decode cX2_drawer 7 = .ok (.aload_n 0, 1) := by decide +kernel
theorem dX2_drawer_8 : decode cX2_drawer 8 = .ok (.iload_n 1, 1) := by decide +kernel
theorem dX2_drawer_9 : decode cX2_drawer 9 = .ok (.invokevirtual 205, 3) := by decide +kernel
theorem dX2_drawer_12 : decode cX2_drawer 12 = .ok (.ifCond .ne 12, 3) := by decide +kernel
theorem dX2_drawer_15 : decode cX2_drawer 15 = .ok (.aload_n 0, 1) := by decide +kernel
theorem dX2_drawer_16 : decode cX2_drawer 16 = .ok (.getfield 54, 3) := by decide +kernel
theorem dX2_drawer_19 : decode cX2_drawer 19 = .ok (.bipush 10, 2) := by decide +kernel
theorem dX2_drawer_21 : decode cX2_drawer 21 = .ok (.if_icmp .lt 5, 3) := by decide +kernel
theorem dX2_drawer_24 : decode cX2_drawer 24 = .ok (.iconst (-1), 1) := by decide +kernel
theorem dX2_drawer_25 : decode cX2_drawer 25 = .ok (.ireturn, 1) := by decide +kernel
theorem dX2_drawer_26 : decode cX2_drawer 26 = .ok (.aload_n 0, 1) := by decide +kernel
theorem dX2_drawer_27 : decode cX2_drawer 27 = .ok (.getfield 51, 3) := by decide +kernel
theorem dX2_drawer_30 : decode cX2_drawer 30 = .ok (.aload_n 0, 1) := by decide +kernel
theorem dX2_drawer_31 : decode cX2_drawer 31 = .ok (.getfield 54, 3) := by decide +kernel
theorem dX2_drawer_34 : decode cX2_drawer 34 = .ok (.iload_n 1, 1) := by decide +kernel
theorem dX2_drawer_35 : decode cX2_drawer 35 = .ok (.iastore, 1) := by decide +kernel
theorem dX2_drawer_36 : decode cX2_drawer 36 = .ok (.aload_n 0, 1) := by decide +kernel
theorem dX2_drawer_37 : decode cX2_drawer 37 = .ok (.dup, 1) := by decide +kernel
theorem dX2_drawer_38 : decode cX2_drawer 38 = .ok (.getfield 54, 3) := by decide +kernel
theorem dX2_drawer_41 : decode cX2_drawer 41 = .ok (.iconst 1, 1) := by decide +kernel
theorem dX2_drawer_42 : decode cX2_drawer 42 = .ok (.iadd, 1) := by decide +kernel
theorem dX2_drawer_43 : decode cX2_drawer 43 = .ok (.putfield 54, 3) := by decide +kernel
theorem dX2_drawer_46 : decode cX2_drawer 46 = .ok (.aload_n 0, 1) := by decide +kernel
theorem dX2_drawer_47 : decode cX2_drawer 47 = .ok (.getfield 54, 3) := by decide +kernel
theorem dX2_drawer_50 : decode cX2_drawer 50 = .ok (.ireturn, 1) := by decide +kernel
set_option maxRecDepth 20000 in
theorem ggX2_parts_X2_isCell : GoodIn wsX2_parts wsX2_isCell := goodIn_r _ [5, 6, 7, 26, 27, 28, 29, 30, 31, 32, 33, 34, 35, 36, 37, 38, 39, 40, 41, 42, 43, 44, 45, 46, 47, 48, 49, 50, 51, 52, 53, 54] (by decide +kernel) (by decide +kernel)
set_option maxRecDepth 20000 in
theorem gX2_parts_X2_isCell : GoodIn wsX2_parts (wsV RX2 94 RX2 yX2_isCell wsX2_isCell) := goodIn_app (goodIn_of _ (by decide +kernel)) ggX2_parts_X2_isCell
set_option maxRecDepth 20000 in
theorem ggX2_parts_X2_isTerm : GoodIn wsX2_parts wsX2_isTerm := goodIn_r _ [10, 11] (by decide +kernel) (by decide +kernel)
set_option maxRecDepth 20000 in
theorem gX2_parts_X2_isTerm : GoodIn wsX2_parts (va_wsS RX2 208 yX2_isTerm wsX2_isTerm) := goodIn_app (goodIn_of _ (by decide +kernel)) ggX2_parts_X2_isTerm
set_option maxRecDepth 20000 in
theorem ggX2_parts_X2_findWays : GoodIn wsX2_parts wsX2_findWays := goodIn_r _ [15, 16, 6, 17, 18, 19, 20, 21, 22, 23, 24, 25, 26, 27, 28, 29, 30, 31, 32, 33, 34, 35, 36, 37, 38, 39, 40, 41, 42, 43, 44, 45, 46, 47, 48, 49, 50, 51, 52, 53, 54] (by decide +kernel) (by decide +kernel)
set_option maxRecDepth 20000 in
theorem gX2_parts_X2_findWays : GoodIn wsX2_parts (wsV RX2 211 RX2 yX2_findWays wsX2_findWays) := goodIn_app (goodIn_of _ (by decide +kernel)) ggX2_parts_X2_findWays
theorem dX2_parts_0 : decode cX2_parts 0 = .ok (.aload_n 0, 1) := by decide +kernel
theorem dX2_parts_1 : decode cX2_parts 1 = .ok (.iload_n 1, 1) := by decide +kernel
theorem dX2_parts_2 : decode cX2_parts 2 = .ok (.invokevirtual 94, 3) := by decide +kernel
theorem dX2_parts_5 : decode cX2_parts 5 = .ok (.ifCond .eq 29, 3) := by decide +kernel
theorem dX2_parts_8 : decode cX2_parts 8 = .ok (.iload_n 2, 1) := by decide +kernel
theorem dX2_parts_9 : decode cX2_parts 9 = .ok (.invokestatic 208, 3) := by decide +kernel
theorem dX2_parts_12 : decode cX2_parts 12 = .ok (.ifCond .eq 22, 3) := by decide +kernel
theorem dX2_parts_15 : decode cX2_parts 15 = .ok (.iload_n 3, 1) := by decide +kernel
theorem dX2_parts_16 : decode cX2_parts 16 = .ok (.invokestatic 208, 3) := by decide +kernel
theorem dX2_parts_19 : decode cX2_parts 19 = .ok (.ifCond .eq 15, 3) := by decide +kernel
theorem dX2_parts_22 : decode cX2_parts 22 = .ok (.aload_n 0, 1) := by decide +kernel
theorem dX2_parts_23 : decode cX2_parts 23 = .ok (.iload_n 1, 1) := by decide +kernel
theorem dX2_parts_24 : decode cX2_parts 24 = .ok (.iload_n 2, 1) := by decide +kernel
theorem dX2_parts_25 : decode cX2_parts 25 = .ok (.i2l, 1) := by decide +kernel
theorem dX2_parts_26 : decode cX2_parts 26 = .ok (.iload_n 3, 1) := by decide +kernel
theorem dX2_parts_27 : decode cX2_parts 27 = .ok (.i2l, 1) := by decide +kernel
theorem dX2_parts_28 : decode cX2_parts 28 = .ok (.invokevirtual 211, 3) := by decide +kernel
theorem dX2_parts_31 : decode cX2_parts 31 = .ok (.goto 4, 3) := by decide +kernel
theorem dX2_parts_34 : decode cX2_parts 34 = .ok (.iconst (-1), 1) := by decide +kernel
theorem dX2_parts_35 : decode cX2_parts 35 = .ok (.ireturn, 1) := by decide +kernel
set_option maxRecDepth 20000 in
theorem ggX2_part_X2_parts : GoodIn wsX2_part wsX2_parts := goodIn_r _ [6, 7, 8, 9, 5, 10, 11, 12, 13, 14, 15, 16, 17, 18, 19, 20, 21, 22, 1, 23, 24, 25, 26, 27, 28, 29, 30, 31, 32, 33, 34, 35, 36, 37, 38, 39, 40, 41, 42, 43, 44, 45, 46, 47, 48, 49, 50, 51, 52, 53, 54, 55, 56, 57, 58] (by decide +kernel) (by decide +kernel)
set_option maxRecDepth 20000 in
theorem gX2_part_X2_parts : GoodIn wsX2_part (wsV RX2 215 RX2 yX2_parts wsX2_parts) := goodIn_app (goodIn_of _ (by decide +kernel)) ggX2_part_X2_parts
theorem dX2_part_0 : decode cX2_part 0 = .ok (.aload_n 0, 1) := by decide +kernel
theorem dX2_part_1 : decode cX2_part 1 = .ok (.iload_n 1, 1) := by decide +kernel
theorem dX2_part_2 : decode cX2_part 2 = .ok (.iload_n 2, 1) := by decide +kernel
theorem dX2_part_3 : decode cX2_part 3 = .ok (.iload_n 3, 1) := by decide +kernel
theorem dX2_part_4 : decode cX2_part 4 = .ok (.invokevirtual 215, 3) := by decide +kernel
theorem dX2_part_7 : decode cX2_part 7 = .ok (.istore 5, 2) := by decide +kernel
theorem dX2_part_9 : decode cX2_part 9 = .ok (.iload 4, 2) := by decide +kernel
theorem dX2_part_11 : decode cX2_part 11 = .ok (.ifCond .lt 20, 3) := by decide +kernel
theorem dX2_part_14 : decode cX2_part 14 = .ok (.iload 4, 2) := by decide +kernel
theorem dX2_part_16 : decode cX2_part 16 = .ok (.iload 5, 2) := by decide +kernel
theorem dX2_part_18 : decode cX2_part 18 = .ok (.if_icmp .ge 13, 3) := by decide +kernel
theorem dX2_part_21 : decode cX2_part 21 = .ok (.aload_n 0, 1) := by decide +kernel
theorem dX2_part_22 : decode cX2_part 22 = .ok (.getfield 66, 3) := by decide +kernel
theorem dX2_part_25 : decode cX2_part 25 = .ok (.iload 4, 2) := by decide +kernel
theorem dX2_part_27 : decode cX2_part 27 = .ok (.iaload, 1) := by decide +kernel
theorem dX2_part_28 : decode cX2_part 28 = .ok (.goto 4, 3) := by decide +kernel
theorem dX2_part_31 : decode cX2_part 31 = .ok (.iconst (-1), 1) := by decide +kernel
theorem dX2_part_32 : decode cX2_part 32 = .ok (.ireturn, 1) := by decide +kernel
set_option maxRecDepth 20000 in
theorem ggX2_measure_X2_isTerm : GoodIn wsX2_measure wsX2_isTerm := goodIn_r _ [7, 8] (by decide +kernel) (by decide +kernel)
set_option maxRecDepth 20000 in
theorem gX2_measure_X2_isTerm : GoodIn wsX2_measure (va_wsS RX2 208 yX2_isTerm wsX2_isTerm) := goodIn_app (goodIn_of _ (by decide +kernel)) ggX2_measure_X2_isTerm
theorem dX2_measure_0 : decode cX2_measure 0 = .ok (.iload_n 1, 1) := by decide +kernel
theorem dX2_measure_1 : decode cX2_measure 1 = .ok (.invokestatic 208, 3) := by decide +kernel
theorem dX2_measure_4 : decode cX2_measure 4 = .ok (.ifCond .eq 19, 3) := by decide +kernel
theorem dX2_measure_7 : decode cX2_measure 7 = .ok (.iload_n 2, 1) := by decide +kernel
theorem dX2_measure_8 : decode cX2_measure 8 = .ok (.invokestatic 208, 3) := by decide +kernel
theorem dX2_measure_11 : decode cX2_measure 11 = .ok (.ifCond .eq 12, 3) := by decide +kernel
theorem dX2_measure_14 : decode cX2_measure 14 = .ok (.aload_n 0, 1) := by decide +kernel
theorem dX2_measure_15 : decode cX2_measure 15 = .ok (.getfield 63, 3) := by decide +kernel
theorem dX2_measure_18 : decode cX2_measure 18 = .ok (.bipush 8, 2) := by decide +kernel
theorem dX2_measure_20 : decode cX2_measure 20 = .ok (.if_icmp .lt 5, 3) := by decide +kernel
theorem dX2_measure_23 : decode cX2_measure 23 = .ok (.iconst (-1), 1) := by decide +kernel
theorem dX2_measure_24 : decode cX2_measure 24 = .ok (.ireturn, 1) := by decide +kernel
theorem dX2_measure_25 : decode cX2_measure 25 = .ok (.aload_n 0, 1) := by decide +kernel
theorem dX2_measure_26 : decode cX2_measure 26 = .ok (.getfield 57, 3) := by decide +kernel
theorem dX2_measure_29 : decode cX2_measure 29 = .ok (.aload_n 0, 1) := by decide +kernel
theorem dX2_measure_30 : decode cX2_measure 30 = .ok (.getfield 63, 3) := by decide +kernel
theorem dX2_measure_33 : decode cX2_measure 33 = .ok (.iload_n 1, 1) := by decide +kernel
theorem dX2_measure_34 : decode cX2_measure 34 = .ok (.iastore, 1) := by decide +kernel
theorem dX2_measure_35 : decode cX2_measure 35 = .ok (.aload_n 0, 1) := by decide +kernel
theorem dX2_measure_36 : decode cX2_measure 36 = .ok (.getfield 60, 3) := by decide +kernel
theorem dX2_measure_39 : decode cX2_measure 39 = .ok (.aload_n 0, 1) := by decide +kernel
theorem dX2_measure_40 : decode cX2_measure 40 = .ok (.getfield 63, 3) := by decide +kernel
theorem dX2_measure_43 : decode cX2_measure 43 = .ok (.iload_n 2, 1) := by decide +kernel
theorem dX2_measure_44 : decode cX2_measure 44 = .ok (.iastore, 1) := by decide +kernel
theorem dX2_measure_45 : decode cX2_measure 45 = .ok (.aload_n 0, 1) := by decide +kernel
theorem dX2_measure_46 : decode cX2_measure 46 = .ok (.dup, 1) := by decide +kernel
theorem dX2_measure_47 : decode cX2_measure 47 = .ok (.getfield 63, 3) := by decide +kernel
theorem dX2_measure_50 : decode cX2_measure 50 = .ok (.iconst 1, 1) := by decide +kernel
theorem dX2_measure_51 : decode cX2_measure 51 = .ok (.iadd, 1) := by decide +kernel
theorem dX2_measure_52 : decode cX2_measure 52 = .ok (.putfield 63, 3) := by decide +kernel
theorem dX2_measure_55 : decode cX2_measure 55 = .ok (.aload_n 0, 1) := by decide +kernel
theorem dX2_measure_56 : decode cX2_measure 56 = .ok (.getfield 63, 3) := by decide +kernel
theorem dX2_measure_59 : decode cX2_measure 59 = .ok (.ireturn, 1) := by decide +kernel
theorem dX2_forget_0 : decode cX2_forget 0 = .ok (.aload_n 0, 1) := by decide +kernel
theorem dX2_forget_1 : decode cX2_forget 1 = .ok (.getfield 63, 3) := by decide +kernel
theorem dX2_forget_4 : decode cX2_forget 4 = .ok (.istore_n 1, 1) := by decide +kernel
theorem dX2_forget_5 : decode cX2_forget 5 = .ok (.aload_n 0, 1) := by decide +kernel
theorem dX2_forget_6 : decode cX2_forget 6 = .ok (.iconst 0, 1) := by decide +kernel
theorem dX2_forget_7 : decode cX2_forget 7 = .ok (.putfield 63, 3) := by decide +kernel
theorem dX2_forget_10 : decode cX2_forget 10 = .ok (.iload_n 1, 1) := by decide +kernel
theorem dX2_forget_11 : decode cX2_forget 11 = .ok (.ireturn, 1) := by decide +kernel
set_option maxRecDepth 20000 in
theorem ggX2_faults_X2_isCell : GoodIn wsX2_faults wsX2_isCell := goodIn_r _ [5, 6, 7, 117, 118, 119, 120, 121, 122, 123, 124, 125, 126, 127, 128, 129, 130, 131, 132, 133, 134, 135, 136, 137, 138, 139, 140, 141, 142, 143, 144, 145] (by decide +kernel) (by decide +kernel)
set_option maxRecDepth 20000 in
theorem gX2_faults_X2_isCell : GoodIn wsX2_faults (wsV RX2 94 RX2 yX2_isCell wsX2_isCell) := goodIn_app (goodIn_of _ (by decide +kernel)) ggX2_faults_X2_isCell
set_option maxRecDepth 20000 in
theorem ggX2_faults_X2_findFaults : GoodIn wsX2_faults wsX2_findFaults := goodIn_r _ [11, 6, 7, 12, 13, 14, 15, 16, 17, 18, 19, 20, 21, 22, 23, 24, 4, 25, 26, 27, 28, 29, 30, 31, 32, 33, 34, 35, 36, 37, 38, 39, 40, 41, 42, 43, 44, 45, 46, 47, 48, 49, 50, 51, 52, 53, 54, 55, 56, 57, 58, 59, 60, 61, 62, 63, 64, 65, 66, 67, 68, 69, 70, 71, 72, 73, 74, 75, 76, 77, 78, 79, 80, 81, 82, 83, 84, 85, 86, 87, 88, 89, 90, 91, 92, 93, 94, 95, 96, 97, 98, 99, 100, 101, 102, 103, 104, 105, 106, 107, 108, 109, 110, 111, 112, 113, 114, 115, 116, 117, 118, 119, 120, 121, 122, 123, 124, 125, 126, 127, 128, 129, 130, 131, 132, 133, 134, 135, 136, 137, 138, 139, 140, 141, 142, 143, 144, 145, 146, 147, 148, 149, 150, 151, 152, 153, 154, 155] (by decide +kernel) (by decide +kernel)
set_option maxRecDepth 20000 in
theorem gX2_faults_X2_findFaults : GoodIn wsX2_faults (wsV RX2 219 RX2 yX2_findFaults wsX2_findFaults) := goodIn_app (goodIn_of _ (by decide +kernel)) ggX2_faults_X2_findFaults
theorem dX2_faults_0 : decode cX2_faults 0 = .ok (.aload_n 0, 1) := by decide +kernel
theorem dX2_faults_1 : decode cX2_faults 1 = .ok (.iload_n 1, 1) := by decide +kernel
theorem dX2_faults_2 : decode cX2_faults 2 = .ok (.invokevirtual 94, 3) := by decide +kernel
theorem dX2_faults_5 : decode cX2_faults 5 = .ok (.ifCond .eq 11, 3) := by decide +kernel
theorem dX2_faults_8 : decode cX2_faults 8 = .ok (.aload_n 0, 1) := by decide +kernel
theorem dX2_faults_9 : decode cX2_faults 9 = .ok (.iload_n 1, 1) := by decide +kernel
theorem dX2_faults_10 : decode cX2_faults 10 = .ok (.invokevirtual 219, 3) := by decide +kernel
theorem dX2_faults_13 : decode cX2_faults 13 = .ok (.goto 4, 3) := by decide +kernel
theorem dX2_faults_16 : decode cX2_faults 16 = .ok (.iconst (-1), 1) := by decide +kernel
theorem dX2_faults_17 : decode cX2_faults 17 = .ok (.ireturn, 1) := by decide +kernel
set_option maxRecDepth 20000 in
theorem ggX2_fault_X2_isCell : GoodIn wsX2_fault wsX2_isCell := goodIn_r _ [6, 7, 8, 117, 118, 119, 120, 121, 122, 123, 124, 125, 126, 127, 128, 129, 130, 131, 132, 133, 134, 135, 136, 137, 138, 139, 140, 141, 142, 143, 144, 145] (by decide +kernel) (by decide +kernel)
set_option maxRecDepth 20000 in
theorem gX2_fault_X2_isCell : GoodIn wsX2_fault (wsV RX2 94 RX2 yX2_isCell wsX2_isCell) := goodIn_app (goodIn_of _ (by decide +kernel)) ggX2_fault_X2_isCell
set_option maxRecDepth 20000 in
theorem ggX2_fault_X2_findFaults : GoodIn wsX2_fault wsX2_findFaults := goodIn_r _ [12, 7, 8, 13, 14, 1, 15, 16, 17, 18, 19, 20, 21, 22, 23, 24, 5, 25, 26, 27, 28, 29, 30, 31, 32, 33, 34, 35, 36, 37, 38, 39, 40, 41, 42, 43, 44, 45, 46, 47, 48, 49, 50, 51, 52, 53, 54, 55, 56, 57, 58, 59, 60, 61, 62, 63, 64, 65, 66, 67, 68, 69, 70, 71, 72, 73, 74, 75, 76, 77, 78, 79, 80, 81, 82, 83, 84, 85, 86, 87, 88, 89, 90, 91, 92, 93, 94, 95, 96, 97, 98, 99, 100, 101, 102, 103, 104, 105, 106, 107, 108, 109, 110, 111, 112, 113, 114, 115, 116, 117, 118, 119, 120, 121, 122, 123, 124, 125, 126, 127, 128, 129, 130, 131, 132, 133, 134, 135, 136, 137, 138, 139, 140, 141, 142, 143, 144, 145, 146, 147, 148, 149, 150, 151, 152, 153, 154, 155] (by decide +kernel) (by decide +kernel)
set_option maxRecDepth 20000 in
theorem gX2_fault_X2_findFaults : GoodIn wsX2_fault (wsV RX2 219 RX2 yX2_findFaults wsX2_findFaults) := goodIn_app (goodIn_of _ (by decide +kernel)) ggX2_fault_X2_findFaults
theorem dX2_fault_0 : decode cX2_fault 0 = .ok (.aload_n 0, 1) := by decide +kernel
theorem dX2_fault_1 : decode cX2_fault 1 = .ok (.iload_n 1, 1) := by decide +kernel
theorem dX2_fault_2 : decode cX2_fault 2 = .ok (.invokevirtual 94, 3) := by decide +kernel
theorem dX2_fault_5 : decode cX2_fault 5 = .ok (.ifCond .eq 11, 3) := by decide +kernel
theorem dX2_fault_8 : decode cX2_fault 8 = .ok (.aload_n 0, 1) := by decide +kernel
theorem dX2_fault_9 : decode cX2_fault 9 = .ok (.iload_n 1, 1) := by decide +kernel
theorem dX2_fault_10 : decode cX2_fault 10 = .ok (.invokevirtual 219, 3) := by decide +kernel
theorem dX2_fault_13 : decode cX2_fault 13 = .ok (.goto 4, 3) := by decide +kernel
theorem dX2_fault_16 : decode cX2_fault 16 = .ok (.iconst 0, 1) := by decide +kernel
theorem dX2_fault_17 : decode cX2_fault 17 = .ok (.istore_n 3, 1) := by decide +kernel
theorem dX2_fault_18 : decode cX2_fault 18 = .ok (.iload_n 2, 1) := by decide +kernel
theorem dX2_fault_19 : decode cX2_fault 19 = .ok (.ifCond .lt 17, 3) := by decide +kernel
theorem dX2_fault_22 : decode cX2_fault 22 = .ok (.iload_n 2, 1) := by decide +kernel
theorem dX2_fault_23 : decode cX2_fault 23 = .ok (.iload_n 3, 1) := by decide +kernel
theorem dX2_fault_24 : decode cX2_fault 24 = .ok (.if_icmp .ge 12, 3) := by decide +kernel
theorem dX2_fault_27 : decode cX2_fault 27 = .ok (.aload_n 0, 1) := by decide +kernel
theorem dX2_fault_28 : decode cX2_fault 28 = .ok (.getfield 69, 3) := by decide +kernel
theorem dX2_fault_31 : decode cX2_fault 31 = .ok (.iload_n 2, 1) := by decide +kernel
theorem dX2_fault_32 : decode cX2_fault 32 = .ok (.iaload, 1) := by decide +kernel
theorem dX2_fault_33 : decode cX2_fault 33 = .ok (.goto 4, 3) := by decide +kernel
theorem dX2_fault_36 : decode cX2_fault 36 = .ok (.iconst (-1), 1) := by decide +kernel
theorem dX2_fault_37 : decode cX2_fault 37 = .ok (.ireturn, 1) := by decide +kernel
set_option maxRecDepth 20000 in
theorem ggX2_fits_X2_isCell : GoodIn wsX2_fits wsX2_isCell := goodIn_r _ [5, 6, 7, 103, 104, 105, 106, 107, 108, 109, 110, 111, 112, 113, 114, 115, 116, 117, 118, 119, 120, 121, 122, 123, 124, 125, 126, 127, 128, 129, 130, 131] (by decide +kernel) (by decide +kernel)
set_option maxRecDepth 20000 in
theorem gX2_fits_X2_isCell : GoodIn wsX2_fits (wsV RX2 94 RX2 yX2_isCell wsX2_isCell) := goodIn_app (goodIn_of _ (by decide +kernel)) ggX2_fits_X2_isCell
set_option maxRecDepth 20000 in
theorem ggX2_fits_X2_isMeasuredSo : GoodIn wsX2_fits wsX2_isMeasuredSo := goodIn_r _ [11, 12, 13, 6, 14, 15, 16, 17, 18, 19, 20, 21, 22, 23, 24, 25, 26, 27, 28, 29, 30, 31, 32, 33, 34, 35, 36, 37, 38, 39, 40, 41, 42, 43, 44, 45, 46, 47, 48, 4, 49, 50, 51, 52, 53, 54, 55, 56, 57, 58, 59, 60, 61, 62, 63, 64, 65, 66, 67, 68, 69, 70, 71, 72, 73, 74, 75, 76, 77, 78, 79, 80, 81, 82, 83, 84, 85, 86, 87, 88, 89, 90, 91, 92, 93, 94, 95, 96, 97, 98, 99, 100, 101, 102, 103, 104, 105, 106, 107, 108, 109, 110, 111, 112, 113, 114, 115, 116, 117, 118, 119, 132, 133, 134, 135, 136, 137, 138, 139, 140, 141, 120, 121, 122, 123, 124, 125, 126, 127, 128, 129, 130, 131] (by decide +kernel) (by decide +kernel)
set_option maxRecDepth 20000 in
theorem gX2_fits_X2_isMeasuredSo : GoodIn wsX2_fits (wsV RX2 222 RX2 yX2_isMeasuredSo wsX2_isMeasuredSo) := goodIn_app (goodIn_of _ (by decide +kernel)) ggX2_fits_X2_isMeasuredSo
theorem dX2_fits_0 : decode cX2_fits 0 = .ok (.aload_n 0, 1) := by decide +kernel
theorem dX2_fits_1 : decode cX2_fits 1 = .ok (.iload_n 1, 1) := by decide +kernel
theorem dX2_fits_2 : decode cX2_fits 2 = .ok (.invokevirtual 94, 3) := by decide +kernel
theorem dX2_fits_5 : decode cX2_fits 5 = .ok (.ifCond .ne 5, 3) := by decide +kernel
theorem dX2_fits_8 : decode cX2_fits 8 = .ok (.iconst (-1), 1) := by decide +kernel
theorem dX2_fits_9 : decode cX2_fits 9 = .ok (.ireturn, 1) := by decide +kernel
theorem dX2_fits_10 : decode cX2_fits 10 = .ok (.aload_n 0, 1) := by decide +kernel
theorem dX2_fits_11 : decode cX2_fits 11 = .ok (.iload_n 1, 1) := by decide +kernel
theorem dX2_fits_12 : decode cX2_fits 12 = .ok (.invokevirtual 222, 3) := by decide +kernel
theorem dX2_fits_15 : decode cX2_fits 15 = .ok (.ifCond .eq 7, 3) := by decide +kernel
theorem dX2_fits_18 : decode cX2_fits 18 = .ok (.iconst 1, 1) := by decide +kernel
theorem dX2_fits_19 : decode cX2_fits 19 = .ok (.goto 4, 3) := by decide +kernel
theorem dX2_fits_22 : decode cX2_fits 22 = .ok (.iconst 0, 1) := by decide +kernel
theorem dX2_fits_23 : decode cX2_fits 23 = .ok (.ireturn, 1) := by decide +kernel
theorem dX2_isCell_0 : decode cX2_isCell 0 = .ok (.iload_n 1, 1) := by decide +kernel
theorem dX2_isCell_1 : decode cX2_isCell 1 = .ok (.ifCond .lt 18, 3) := by decide +kernel
theorem dX2_isCell_4 : decode cX2_isCell 4 = .ok (.iload_n 1, 1) := by decide +kernel
theorem dX2_isCell_5 : decode cX2_isCell 5 = .ok (.aload_n 0, 1) := by decide +kernel
theorem dX2_isCell_6 : decode cX2_isCell 6 = .ok (.getfield 12, 3) := by decide +kernel
theorem dX2_isCell_9 : decode cX2_isCell 9 = .ok (.getfield 76, 3) := by decide +kernel
theorem dX2_isCell_12 : decode cX2_isCell 12 = .ok (.if_icmp .ge 7, 3) := by decide +kernel
theorem dX2_isCell_15 : decode cX2_isCell 15 = .ok (.iconst 1, 1) := by decide +kernel
theorem dX2_isCell_16 : decode cX2_isCell 16 = .ok (.goto 4, 3) := by decide +kernel
theorem dX2_isCell_19 : decode cX2_isCell 19 = .ok (.iconst 0, 1) := by decide +kernel
theorem dX2_isCell_20 : decode cX2_isCell 20 = .ok (.ireturn, 1) := by decide +kernel
theorem dX2_isRate_0 : decode cX2_isRate 0 = .ok (.iload_n 0, 1) := by decide +kernel
theorem dX2_isRate_1 : decode cX2_isRate 1 = .ok (.iconst 1, 1) := by decide +kernel
theorem dX2_isRate_2 : decode cX2_isRate 2 = .ok (.if_icmp .lt 13, 3) := by decide +kernel
theorem dX2_isRate_5 : decode cX2_isRate 5 = .ok (.iload_n 0, 1) := by decide +kernel
theorem dX2_isRate_6 : decode cX2_isRate 6 = .ok (.bipush 60, 2) := by decide +kernel
theorem dX2_isRate_8 : decode cX2_isRate 8 = .ok (.if_icmp .gt 7, 3) := by decide +kernel
theorem dX2_isRate_11 : decode cX2_isRate 11 = .ok (.iconst 1, 1) := by decide +kernel
theorem dX2_isRate_12 : decode cX2_isRate 12 = .ok (.goto 4, 3) := by decide +kernel
theorem dX2_isRate_15 : decode cX2_isRate 15 = .ok (.iconst 0, 1) := by decide +kernel
theorem dX2_isRate_16 : decode cX2_isRate 16 = .ok (.ireturn, 1) := by decide +kernel
theorem dX2_isTerm_0 : decode cX2_isTerm 0 = .ok (.iload_n 0, 1) := by decide +kernel
theorem dX2_isTerm_1 : decode cX2_isTerm 1 = .ok (.iconst 1, 1) := by decide +kernel
theorem dX2_isTerm_2 : decode cX2_isTerm 2 = .ok (.if_icmp .lt 13, 3) := by decide +kernel
theorem dX2_isTerm_5 : decode cX2_isTerm 5 = .ok (.iload_n 0, 1) := by decide +kernel
theorem dX2_isTerm_6 : decode cX2_isTerm 6 = .ok (.ldc 225, 2) := by decide +kernel
theorem dX2_isTerm_8 : decode cX2_isTerm 8 = .ok (.if_icmp .gt 7, 3) := by decide +kernel
theorem dX2_isTerm_11 : decode cX2_isTerm 11 = .ok (.iconst 1, 1) := by decide +kernel
theorem dX2_isTerm_12 : decode cX2_isTerm 12 = .ok (.goto 4, 3) := by decide +kernel
theorem dX2_isTerm_15 : decode cX2_isTerm 15 = .ok (.iconst 0, 1) := by decide +kernel
theorem dX2_isTerm_16 : decode cX2_isTerm 16 = .ok (.ireturn, 1) := by decide +kernel
theorem dX2_isAct_0 : decode cX2_isAct 0 = .ok (.iload_n 0, 1) := by decide +kernel
theorem dX2_isAct_1 : decode cX2_isAct 1 = .ok (.tableswitch 62 0 2 #[27, 45, 47], 27) := by decide +kernel
theorem dX2_isAct_28 : decode cX2_isAct 28 = .ok (.iload_n 1, 1) := by decide +kernel
theorem dX2_isAct_29 : decode cX2_isAct 29 = .ok (.bipush (-20), 2) := by decide +kernel
theorem dX2_isAct_31 : decode cX2_isAct 31 = .ok (.if_icmp .lt 13, 3) := by decide +kernel
theorem dX2_isAct_34 : decode cX2_isAct 34 = .ok (.iload_n 1, 1) := by decide +kernel
theorem dX2_isAct_35 : decode cX2_isAct 35 = .ok (.bipush 20, 2) := by decide +kernel
theorem dX2_isAct_37 : decode cX2_isAct 37 = .ok (.if_icmp .gt 7, 3) := by decide +kernel
theorem dX2_isAct_40 : decode cX2_isAct 40 = .ok (.iconst 1, 1) := by decide +kernel
theorem dX2_isAct_41 : decode cX2_isAct 41 = .ok (.goto 4, 3) := by decide +kernel
theorem dX2_isAct_44 : decode cX2_isAct 44 = .ok (.iconst 0, 1) := by decide +kernel
theorem dX2_isAct_45 : decode cX2_isAct 45 = .ok (.ireturn, 1) := by decide +kernel
theorem dX2_isAct_46 : decode cX2_isAct 46 = .ok (.iconst 1, 1) := by decide +kernel
theorem dX2_isAct_47 : decode cX2_isAct 47 = .ok (.ireturn, 1) := by decide +kernel
theorem dX2_isAct_48 : decode cX2_isAct 48 = .ok (.iload_n 1, 1) := by decide +kernel
theorem dX2_isAct_49 : decode cX2_isAct 49 = .ok (.ifCond .eq 8, 3) := by decide +kernel
theorem dX2_isAct_52 : decode cX2_isAct 52 = .ok (.iload_n 1, 1) := by decide +kernel
theorem dX2_isAct_53 : decode cX2_isAct 53 = .ok (.iconst 1, 1) := by decide +kernel
theorem dX2_isAct_54 : decode cX2_isAct 54 = .ok (.if_icmp .ne 7, 3) := by decide +kernel
theorem dX2_isAct_57 : decode cX2_isAct 57 = .ok (.iconst 1, 1) := by decide +kernel
theorem dX2_isAct_58 : decode cX2_isAct 58 = .ok (.goto 4, 3) := by decide +kernel
theorem dX2_isAct_61 : decode cX2_isAct 61 = .ok (.iconst 0, 1) := by decide +kernel
theorem dX2_isAct_62 : decode cX2_isAct 62 = .ok (.ireturn, 1) := by decide +kernel
theorem dX2_isAct_63 : decode cX2_isAct 63 = .ok (.iconst 0, 1) := by decide +kernel
theorem dX2_isAct_64 : decode cX2_isAct 64 = .ok (.ireturn, 1) := by decide +kernel
theorem dX2_isStocked_0 : decode cX2_isStocked 0 = .ok (.iconst 0, 1) := by decide +kernel
theorem dX2_isStocked_1 : decode cX2_isStocked 1 = .ok (.istore_n 2, 1) := by decide +kernel
theorem dX2_isStocked_2 : decode cX2_isStocked 2 = .ok (.iload_n 2, 1) := by decide +kernel
theorem dX2_isStocked_3 : decode cX2_isStocked 3 = .ok (.aload_n 0, 1) := by decide +kernel
theorem dX2_isStocked_4 : decode cX2_isStocked 4 = .ok (.getfield 54, 3) := by decide +kernel
theorem dX2_isStocked_7 : decode cX2_isStocked 7 = .ok (.if_icmp .ge 21, 3) := by decide +kernel
theorem dX2_isStocked_10 : decode cX2_isStocked 10 = .ok (.aload_n 0, 1) := by decide +kernel
theorem dX2_isStocked_11 : decode cX2_isStocked 11 = .ok (.getfield 51, 3) := by decide +kernel
theorem dX2_isStocked_14 : decode cX2_isStocked 14 = .ok (.iload_n 2, 1) := by decide +kernel
theorem dX2_isStocked_15 : decode cX2_isStocked 15 = .ok (.iaload, 1) := by decide +kernel
theorem dX2_isStocked_16 : decode cX2_isStocked 16 = .ok (.iload_n 1, 1) := by decide +kernel
theorem dX2_isStocked_17 : decode cX2_isStocked 17 = .ok (.if_icmp .ne 5, 3) := by decide +kernel
theorem dX2_isStocked_20 : decode cX2_isStocked 20 = .ok (.iconst 1, 1) := by decide +kernel
theorem dX2_isStocked_21 : decode cX2_isStocked 21 = .ok (.ireturn, 1) := by decide +kernel
theorem dX2_isStocked_22 : decode cX2_isStocked 22 = .ok (.iinc 2 1, 3) := by decide +kernel
theorem dX2_isStocked_25 : decode cX2_isStocked 25 = .ok (.goto (-23), 3) := by decide +kernel
theorem dX2_isStocked_28 : decode cX2_isStocked 28 = .ok (.iconst 0, 1) := by decide +kernel
theorem dX2_isStocked_29 : decode cX2_isStocked 29 = .ok (.ireturn, 1) := by decide +kernel
set_option maxRecDepth 20000 in
theorem ggX2_startAgain_X1_restart : GoodIn wsX2_startAgain wsX1_restart := goodIn_r _ [10, 11, 12, 13, 14, 15, 16, 17, 35, 36, 37, 38, 39, 40, 41, 42, 43, 44, 45, 46, 47, 48, 49, 50, 51, 52, 53, 54, 55, 56] (by decide +kernel) (by decide +kernel)
set_option maxRecDepth 20000 in
theorem gX2_startAgain_X1_restart : GoodIn wsX2_startAgain (wsV RX2 226 RX1 yX1_restart wsX1_restart) := goodIn_app (goodIn_of _ (by decide +kernel)) ggX2_startAgain_X1_restart
theorem dX2_startAgain_0 : decode cX2_startAgain 0 = .ok (.aload_n 0, 1) := by decide +kernel
theorem dX2_startAgain_1 : decode cX2_startAgain 1 = .ok (.getfield 19, 3) := by decide +kernel
theorem dX2_startAgain_4 : decode cX2_startAgain 4 = .ok (.aload_n 0, 1) := by decide +kernel
theorem dX2_startAgain_5 : decode cX2_startAgain 5 = .ok (.getfield 12, 3) := by decide +kernel
theorem dX2_startAgain_8 : decode cX2_startAgain 8 = .ok (.invokevirtual 226, 3) := by decide +kernel
theorem dX2_startAgain_11 : decode cX2_startAgain 11 = .ok (.aload_n 0, 1) := by decide +kernel
theorem dX2_startAgain_12 : decode cX2_startAgain 12 = .ok (.iconst 0, 1) := by decide +kernel
theorem dX2_startAgain_13 : decode cX2_startAgain 13 = .ok (.putfield 26, 3) := by decide +kernel
theorem dX2_startAgain_16 : decode cX2_startAgain 16 = .ok (.iconst 0, 1) := by decide +kernel
theorem dX2_startAgain_17 : decode cX2_startAgain 17 = .ok (.istore_n 1, 1) := by decide +kernel
theorem dX2_startAgain_18 : decode cX2_startAgain 18 = .ok (.iload_n 1, 1) := by decide +kernel
theorem dX2_startAgain_19 : decode cX2_startAgain 19 = .ok (.iconst 4, 1) := by decide +kernel
theorem dX2_startAgain_20 : decode cX2_startAgain 20 = .ok (.if_icmp .ge 23, 3) := by decide +kernel
theorem dX2_startAgain_23 : decode cX2_startAgain 23 = .ok (.aload_n 0, 1) := by decide +kernel
theorem dX2_startAgain_24 : decode cX2_startAgain 24 = .ok (.getfield 30, 3) := by decide +kernel
theorem dX2_startAgain_27 : decode cX2_startAgain 27 = .ok (.iload_n 1, 1) := by decide +kernel
theorem dX2_startAgain_28 : decode cX2_startAgain 28 = .ok (.iconst 0, 1) := by decide +kernel
theorem dX2_startAgain_29 : decode cX2_startAgain 29 = .ok (.iastore, 1) := by decide +kernel
theorem dX2_startAgain_30 : decode cX2_startAgain 30 = .ok (.aload_n 0, 1) := by decide +kernel
theorem dX2_startAgain_31 : decode cX2_startAgain 31 = .ok (.getfield 34, 3) := by decide +kernel
theorem dX2_startAgain_34 : decode cX2_startAgain 34 = .ok (.iload_n 1, 1) := by decide +kernel
theorem dX2_startAgain_35 : decode cX2_startAgain 35 = .ok (.iconst 0, 1) := by decide +kernel
theorem dX2_startAgain_36 : decode cX2_startAgain 36 = .ok (.iastore, 1) := by decide +kernel
theorem dX2_startAgain_37 : decode cX2_startAgain 37 = .ok (.iinc 1 1, 3) := by decide +kernel
theorem dX2_startAgain_40 : decode cX2_startAgain 40 = .ok (.goto (-22), 3) := by decide +kernel
theorem dX2_startAgain_43 : decode cX2_startAgain 43 = .ok (.return_, 1) := by decide +kernel
theorem dX2_isKept_0 : decode cX2_isKept 0 = .ok (.iload_n 0, 1) := by decide +kernel
theorem dX2_isKept_1 : decode cX2_isKept 1 = .ok (.ifCond .lt 14, 3) := by decide +kernel
theorem dX2_isKept_4 : decode cX2_isKept 4 = .ok (.iload_n 0, 1) := by decide +kernel
theorem dX2_isKept_5 : decode cX2_isKept 5 = .ok (.sipush 500, 3) := by decide +kernel
theorem dX2_isKept_8 : decode cX2_isKept 8 = .ok (.if_icmp .ge 7, 3) := by decide +kernel
theorem dX2_isKept_11 : decode cX2_isKept 11 = .ok (.iconst 1, 1) := by decide +kernel
theorem dX2_isKept_12 : decode cX2_isKept 12 = .ok (.goto 4, 3) := by decide +kernel
theorem dX2_isKept_15 : decode cX2_isKept 15 = .ok (.iconst 0, 1) := by decide +kernel
theorem dX2_isKept_16 : decode cX2_isKept 16 = .ok (.ireturn, 1) := by decide +kernel
set_option maxRecDepth 20000 in
theorem ggX2_noteEvent_X2_isKept : GoodIn wsX2_noteEvent wsX2_isKept := goodIn_r _ [11] (by decide +kernel) (by decide +kernel)
set_option maxRecDepth 20000 in
theorem gX2_noteEvent_X2_isKept : GoodIn wsX2_noteEvent (va_wsS RX2 174 yX2_isKept wsX2_isKept) := goodIn_app (goodIn_of _ (by decide +kernel)) ggX2_noteEvent_X2_isKept
set_option maxRecDepth 20000 in
theorem ggX2_noteEvent_X1_packedEvent : GoodIn wsX2_noteEvent wsX1_packedEvent := goodIn_r _ [16, 17, 18, 19, 20, 21, 10, 22, 40, 41, 42, 43, 44, 45, 46, 47, 48, 49] (by decide +kernel) (by decide +kernel)
set_option maxRecDepth 20000 in
theorem gX2_noteEvent_X1_packedEvent : GoodIn wsX2_noteEvent (wsV RX2 230 RX1 yX1_packedEvent wsX1_packedEvent) := goodIn_app (goodIn_of _ (by decide +kernel)) ggX2_noteEvent_X1_packedEvent
theorem dX2_noteEvent_0 : decode cX2_noteEvent 0 = .ok (.aload_n 0, 1) := by decide +kernel
theorem dX2_noteEvent_1 : decode cX2_noteEvent 1 = .ok (.getfield 26, 3) := by decide +kernel
theorem dX2_noteEvent_4 : decode cX2_noteEvent 4 = .ok (.invokestatic 174, 3) := by decide +kernel
theorem dX2_noteEvent_7 : decode cX2_noteEvent 7 = .ok (.ifCond .eq 19, 3) := by decide +kernel
theorem dX2_noteEvent_10 : decode cX2_noteEvent 10 = .ok (.aload_n 0, 1) := by decide +kernel
theorem dX2_noteEvent_11 : decode cX2_noteEvent 11 = .ok (.getfield 37, 3) := by decide +kernel
theorem dX2_noteEvent_14 : decode cX2_noteEvent 14 = .ok (.aload_n 0, 1) := by decide +kernel
theorem dX2_noteEvent_15 : decode cX2_noteEvent 15 = .ok (.getfield 26, 3) := by decide +kernel
theorem dX2_noteEvent_18 : decode cX2_noteEvent 18 = .ok (.aload_n 0, 1) := by decide +kernel
theorem dX2_noteEvent_19 : decode cX2_noteEvent 19 = .ok (.getfield 19, 3) := by decide +kernel
theorem dX2_noteEvent_22 : decode cX2_noteEvent 22 = .ok (.invokevirtual 230, 3) := by decide +kernel
theorem dX2_noteEvent_25 : decode cX2_noteEvent 25 = .ok (.lastore, 1) := by decide +kernel
theorem dX2_noteEvent_26 : decode cX2_noteEvent 26 = .ok (.aload_n 0, 1) := by decide +kernel
theorem dX2_noteEvent_27 : decode cX2_noteEvent 27 = .ok (.dup, 1) := by decide +kernel
theorem dX2_noteEvent_28 : decode cX2_noteEvent 28 = .ok (.getfield 26, 3) := by decide +kernel
theorem dX2_noteEvent_31 : decode cX2_noteEvent 31 = .ok (.iconst 1, 1) := by decide +kernel
theorem dX2_noteEvent_32 : decode cX2_noteEvent 32 = .ok (.iadd, 1) := by decide +kernel
theorem dX2_noteEvent_33 : decode cX2_noteEvent 33 = .ok (.putfield 26, 3) := by decide +kernel
theorem dX2_noteEvent_36 : decode cX2_noteEvent 36 = .ok (.aload_n 0, 1) := by decide +kernel
theorem dX2_noteEvent_37 : decode cX2_noteEvent 37 = .ok (.getfield 19, 3) := by decide +kernel
theorem dX2_noteEvent_40 : decode cX2_noteEvent 40 = .ok (.getfield 234, 3) := by decide +kernel
theorem dX2_noteEvent_43 : decode cX2_noteEvent 43 = .ok (.ifCond .ne 22, 3) := by decide +kernel
theorem dX2_noteEvent_46 : decode cX2_noteEvent 46 = .ok (.aload_n 0, 1) := by decide +kernel
theorem dX2_noteEvent_47 : decode cX2_noteEvent 47 = .ok (.getfield 30, 3) := by decide +kernel
theorem dX2_noteEvent_50 : decode cX2_noteEvent 50 = .ok (.aload_n 0, 1) := by decide +kernel
theorem dX2_noteEvent_51 : decode cX2_noteEvent 51 = .ok (.getfield 19, 3) := by decide +kernel
theorem dX2_noteEvent_54 : decode cX2_noteEvent 54 = .ok (.getfield 237, 3) := by decide +kernel
theorem dX2_noteEvent_57 : decode cX2_noteEvent 57 = .ok (.dup2, 1) := by decide +kernel
theorem dX2_noteEvent_58 : decode cX2_noteEvent 58 = .ok (.iaload, 1) := by decide +kernel
theorem dX2_noteEvent_59 : decode cX2_noteEvent 59 = .ok (.iconst 1, 1) := by decide +kernel
theorem dX2_noteEvent_60 : decode cX2_noteEvent 60 = .ok (.iadd, 1) := by decide +kernel
theorem dX2_noteEvent_61 : decode cX2_noteEvent 61 = .ok (.iastore, 1) := by decide +kernel
theorem dX2_noteEvent_62 : decode cX2_noteEvent 62 = .ok (.goto 19, 3) := by decide +kernel
theorem dX2_noteEvent_65 : decode cX2_noteEvent 65 = .ok (.aload_n 0, 1) := by decide +kernel
theorem dX2_noteEvent_66 : decode cX2_noteEvent 66 = .ok (.getfield 34, 3) := by decide +kernel
theorem dX2_noteEvent_69 : decode cX2_noteEvent 69 = .ok (.aload_n 0, 1) := by decide +kernel
theorem dX2_noteEvent_70 : decode cX2_noteEvent 70 = .ok (.getfield 19, 3) := by decide +kernel
theorem dX2_noteEvent_73 : decode cX2_noteEvent 73 = .ok (.getfield 237, 3) := by decide +kernel
theorem dX2_noteEvent_76 : decode cX2_noteEvent 76 = .ok (.dup2, 1) := by decide +kernel
theorem dX2_noteEvent_77 : decode cX2_noteEvent 77 = .ok (.iaload, 1) := by decide +kernel
theorem dX2_noteEvent_78 : decode cX2_noteEvent 78 = .ok (.iconst 1, 1) := by decide +kernel
theorem dX2_noteEvent_79 : decode cX2_noteEvent 79 = .ok (.iadd, 1) := by decide +kernel
theorem dX2_noteEvent_80 : decode cX2_noteEvent 80 = .ok (.iastore, 1) := by decide +kernel
theorem dX2_noteEvent_81 : decode cX2_noteEvent 81 = .ok (.return_, 1) := by decide +kernel
set_option maxRecDepth 20000 in
theorem ggX2_isNextSpent_X1_copyFrom : GoodIn wsX2_isNextSpent wsX1_copyFrom := goodIn_r _ [9, 10, 11, 12, 13, 14, 15, 97, 98, 99, 100, 101, 102, 103, 104, 105, 106] (by decide +kernel) (by decide +kernel)
set_option maxRecDepth 20000 in
theorem gX2_isNextSpent_X1_copyFrom : GoodIn wsX2_isNextSpent (wsV RX2 126 RX1 yX1_copyFrom wsX1_copyFrom) := goodIn_app (goodIn_of _ (by decide +kernel)) ggX2_isNextSpent_X1_copyFrom
set_option maxRecDepth 20000 in
theorem ggX2_isNextSpent_X1_advance : GoodIn wsX2_isNextSpent wsX1_advance := goodIn_r _ [19, 20, 14, 21, 22, 23, 24, 25, 8, 26, 27, 13, 12, 28, 29, 30, 31, 32, 33, 34, 35, 36, 10, 11, 37, 38, 39, 40, 41, 42, 43, 44, 45, 46, 15, 47, 48, 49, 50, 51, 52, 53, 54, 55, 56, 57, 58, 59, 60, 61, 62, 63, 64, 65, 66, 67, 85, 86, 87, 88, 89, 90, 91, 92, 93, 94, 95, 96, 97, 98, 99, 100, 101, 102, 103, 104, 105, 106] (by decide +kernel) (by decide +kernel)
set_option maxRecDepth 20000 in
theorem gX2_isNextSpent_X1_advance : GoodIn wsX2_isNextSpent (wsV RX2 130 RX1 yX1_advance wsX1_advance) := goodIn_app (goodIn_of _ (by decide +kernel)) ggX2_isNextSpent_X1_advance
theorem dX2_isNextSpent_0 : decode cX2_isNextSpent 0 = .ok (.aload_n 0, 1) := by decide +kernel
theorem dX2_isNextSpent_1 : decode cX2_isNextSpent 1 = .ok (.getfield 12, 3) := by decide +kernel
theorem dX2_isNextSpent_4 : decode cX2_isNextSpent 4 = .ok (.getfield 76, 3) := by decide +kernel
theorem dX2_isNextSpent_7 : decode cX2_isNextSpent 7 = .ok (.ifCond .ne 5, 3) := by decide +kernel
theorem dX2_isNextSpent_10 : decode cX2_isNextSpent 10 = .ok (.iconst 0, 1) := by decide +kernel
theorem dX2_isNextSpent_11 : decode cX2_isNextSpent 11 = .ok (.ireturn, 1) := by decide +kernel
theorem dX2_isNextSpent_12 : decode cX2_isNextSpent 12 = .ok (.aload_n 0, 1) := by decide +kernel
theorem dX2_isNextSpent_13 : decode cX2_isNextSpent 13 = .ok (.getfield 23, 3) := by decide +kernel
theorem dX2_isNextSpent_16 : decode cX2_isNextSpent 16 = .ok (.aload_n 0, 1) := by decide +kernel
theorem dX2_isNextSpent_17 : decode cX2_isNextSpent 17 = .ok (.getfield 19, 3) := by decide +kernel
theorem dX2_isNextSpent_20 : decode cX2_isNextSpent 20 = .ok (.invokevirtual 126, 3) := by decide +kernel
theorem dX2_isNextSpent_23 : decode cX2_isNextSpent 23 = .ok (.aload_n 0, 1) := by decide +kernel
theorem dX2_isNextSpent_24 : decode cX2_isNextSpent 24 = .ok (.getfield 23, 3) := by decide +kernel
theorem dX2_isNextSpent_27 : decode cX2_isNextSpent 27 = .ok (.aload_n 0, 1) := by decide +kernel
theorem dX2_isNextSpent_28 : decode cX2_isNextSpent 28 = .ok (.getfield 12, 3) := by decide +kernel
theorem dX2_isNextSpent_31 : decode cX2_isNextSpent 31 = .ok (.invokevirtual 130, 3) := by decide +kernel
theorem dX2_isNextSpent_34 : decode cX2_isNextSpent 34 = .ok (.ifCond .ne 7, 3) := by decide +kernel
theorem dX2_isNextSpent_37 : decode cX2_isNextSpent 37 = .ok (.iconst 1, 1) := by decide +kernel
theorem dX2_isNextSpent_38 : decode cX2_isNextSpent 38 = .ok (.goto 4, 3) := by decide +kernel
theorem dX2_isNextSpent_41 : decode cX2_isNextSpent 41 = .ok (.iconst 0, 1) := by decide +kernel
theorem dX2_isNextSpent_42 : decode cX2_isNextSpent 42 = .ok (.ireturn, 1) := by decide +kernel
set_option maxRecDepth 20000 in
theorem ggX2_writeTrail_X2_packed : GoodIn wsX2_writeTrail wsX2_packed := goodIn_r _ [8] (by decide +kernel) (by decide +kernel)
set_option maxRecDepth 20000 in
theorem gX2_writeTrail_X2_packed : GoodIn wsX2_writeTrail (va_wsS RX2 240 yX2_packed wsX2_packed) := goodIn_app (goodIn_of _ (by decide +kernel)) ggX2_writeTrail_X2_packed
set_option maxRecDepth 20000 in
theorem ggX2_writeTrail_X1_packedMarks : GoodIn wsX2_writeTrail wsX1_packedMarks := goodIn_r _ [13, 14, 15, 16, 42, 43, 44, 45, 46, 47, 48, 49, 50, 51] (by decide +kernel) (by decide +kernel)
set_option maxRecDepth 20000 in
theorem gX2_writeTrail_X1_packedMarks : GoodIn wsX2_writeTrail (wsV RX2 244 RX1 yX1_packedMarks wsX1_packedMarks) := goodIn_app (goodIn_of _ (by decide +kernel)) ggX2_writeTrail_X1_packedMarks
set_option maxRecDepth 20000 in
theorem ggX2_writeTrail_X1_packedEvent : GoodIn wsX2_writeTrail wsX1_packedEvent := goodIn_r _ [20, 21, 22, 23, 24, 6, 7, 8, 42, 43, 44, 45, 46, 47, 48, 49, 50, 51] (by decide +kernel) (by decide +kernel)
set_option maxRecDepth 20000 in
theorem gX2_writeTrail_X1_packedEvent : GoodIn wsX2_writeTrail (wsV RX2 230 RX1 yX1_packedEvent wsX1_packedEvent) := goodIn_app (goodIn_of _ (by decide +kernel)) ggX2_writeTrail_X1_packedEvent
theorem dX2_writeTrail_0 : decode cX2_writeTrail 0 = .ok (.iload_n 1, 1) := by decide +kernel
theorem dX2_writeTrail_1 : decode cX2_writeTrail 1 = .ok (.bipush 6, 2) := by decide +kernel
theorem dX2_writeTrail_3 : decode cX2_writeTrail 3 = .ok (.imul, 1) := by decide +kernel
theorem dX2_writeTrail_4 : decode cX2_writeTrail 4 = .ok (.istore_n 2, 1) := by decide +kernel
theorem dX2_writeTrail_5 : decode cX2_writeTrail 5 = .ok (.iconst 0, 1) := by decide +kernel
theorem dX2_writeTrail_6 : decode cX2_writeTrail 6 = .ok (.istore_n 3, 1) := by decide +kernel
theorem dX2_writeTrail_7 : decode cX2_writeTrail 7 = .ok (.iload_n 3, 1) := by decide +kernel
theorem dX2_writeTrail_8 : decode cX2_writeTrail 8 = .ok (.iconst 4, 1) := by decide +kernel
theorem dX2_writeTrail_9 : decode cX2_writeTrail 9 = .ok (.if_icmp .ge 38, 3) := by decide +kernel
theorem dX2_writeTrail_12 : decode cX2_writeTrail 12 = .ok (.aload_n 0, 1) := by decide +kernel
theorem dX2_writeTrail_13 : decode cX2_writeTrail 13 = .ok (.getfield 41, 3) := by decide +kernel
theorem dX2_writeTrail_16 : decode cX2_writeTrail 16 = .ok (.iload_n 2, 1) := by decide +kernel
theorem dX2_writeTrail_17 : decode cX2_writeTrail 17 = .ok (.iload_n 3, 1) := by decide +kernel
theorem dX2_writeTrail_18 : decode cX2_writeTrail 18 = .ok (.iadd, 1) := by decide +kernel
theorem dX2_writeTrail_19 : decode cX2_writeTrail 19 = .ok (.aload_n 0, 1) := by decide +kernel
theorem dX2_writeTrail_20 : decode cX2_writeTrail 20 = .ok (.getfield 23, 3) := by decide +kernel
theorem dX2_writeTrail_23 : decode cX2_writeTrail 23 = .ok (.getfield 155, 3) := by decide +kernel
theorem dX2_writeTrail_26 : decode cX2_writeTrail 26 = .ok (.iload_n 3, 1) := by decide +kernel
theorem dX2_writeTrail_27 : decode cX2_writeTrail 27 = .ok (.laload, 1) := by decide +kernel
theorem dX2_writeTrail_28 : decode cX2_writeTrail 28 = .ok (.aload_n 0, 1) := by decide +kernel
theorem dX2_writeTrail_29 : decode cX2_writeTrail 29 = .ok (.getfield 23, 3) := by decide +kernel
theorem dX2_writeTrail_32 : decode cX2_writeTrail 32 = .ok (.getfield 158, 3) := by decide +kernel
theorem dX2_writeTrail_35 : decode cX2_writeTrail 35 = .ok (.iload_n 3, 1) := by decide +kernel
theorem dX2_writeTrail_36 : decode cX2_writeTrail 36 = .ok (.laload, 1) := by decide +kernel
theorem dX2_writeTrail_37 : decode cX2_writeTrail 37 = .ok (.invokestatic 240, 3) := by decide +kernel
theorem dX2_writeTrail_40 : decode cX2_writeTrail 40 = .ok (.lastore, 1) := by decide +kernel
theorem dX2_writeTrail_41 : decode cX2_writeTrail 41 = .ok (.iinc 3 1, 3) := by decide +kernel
theorem dX2_writeTrail_44 : decode cX2_writeTrail 44 = .ok (.goto (-37), 3) := by decide +kernel
theorem dX2_writeTrail_47 : decode cX2_writeTrail 47 = .ok (.aload_n 0, 1) := by decide +kernel
theorem dX2_writeTrail_48 : decode cX2_writeTrail 48 = .ok (.getfield 41, 3) := by decide +kernel
theorem dX2_writeTrail_51 : decode cX2_writeTrail 51 = .ok (.iload_n 2, 1) := by decide +kernel
theorem dX2_writeTrail_52 : decode cX2_writeTrail 52 = .ok (.iconst 4, 1) := by decide +kernel
theorem dX2_writeTrail_53 : decode cX2_writeTrail 53 = .ok (.iadd, 1) := by decide +kernel
theorem dX2_writeTrail_54 : decode cX2_writeTrail 54 = .ok (.aload_n 0, 1) := by decide +kernel
theorem dX2_writeTrail_55 : decode cX2_writeTrail 55 = .ok (.getfield 23, 3) := by decide +kernel
theorem dX2_writeTrail_58 : decode cX2_writeTrail 58 = .ok (.invokevirtual 244, 3) := by decide +kernel
theorem dX2_writeTrail_61 : decode cX2_writeTrail 61 = .ok (.lastore, 1) := by decide +kernel
theorem dX2_writeTrail_62 : decode cX2_writeTrail 62 = .ok (.aload_n 0, 1) := by decide +kernel
theorem dX2_writeTrail_63 : decode cX2_writeTrail 63 = .ok (.getfield 41, 3) := by decide +kernel
theorem dX2_writeTrail_66 : decode cX2_writeTrail 66 = .ok (.iload_n 2, 1) := by decide +kernel
theorem dX2_writeTrail_67 : decode cX2_writeTrail 67 = .ok (.iconst 5, 1) := by decide +kernel
theorem dX2_writeTrail_68 : decode cX2_writeTrail 68 = .ok (.iadd, 1) := by decide +kernel
theorem dX2_writeTrail_69 : decode cX2_writeTrail 69 = .ok (.aload_n 0, 1) := by decide +kernel
theorem dX2_writeTrail_70 : decode cX2_writeTrail 70 = .ok (.getfield 23, 3) := by decide +kernel
theorem dX2_writeTrail_73 : decode cX2_writeTrail 73 = .ok (.invokevirtual 230, 3) := by decide +kernel
theorem dX2_writeTrail_76 : decode cX2_writeTrail 76 = .ok (.lastore, 1) := by decide +kernel
theorem dX2_writeTrail_77 : decode cX2_writeTrail 77 = .ok (.return_, 1) := by decide +kernel
set_option maxRecDepth 20000 in
theorem ggX2_sameAhead_X2_isSameState : GoodIn wsX2_sameAhead wsX2_isSameState := goodIn_r _ [5, 6, 7, 8, 9, 10, 11, 12, 13, 14, 15, 16, 17, 18, 19, 20, 21, 22, 23] (by decide +kernel) (by decide +kernel)
set_option maxRecDepth 20000 in
theorem gX2_sameAhead_X2_isSameState : GoodIn wsX2_sameAhead (wsV RX2 247 RX2 yX2_isSameState wsX2_isSameState) := goodIn_app (goodIn_of _ (by decide +kernel)) ggX2_sameAhead_X2_isSameState
theorem dX2_sameAhead_0 : decode cX2_sameAhead 0 = .ok (.iconst 0, 1) := by decide +kernel
theorem dX2_sameAhead_1 : decode cX2_sameAhead 1 = .ok (.istore_n 2, 1) := by decide +kernel
theorem dX2_sameAhead_2 : decode cX2_sameAhead 2 = .ok (.iload_n 2, 1) := by decide +kernel
theorem dX2_sameAhead_3 : decode cX2_sameAhead 3 = .ok (.iload_n 1, 1) := by decide +kernel
theorem dX2_sameAhead_4 : decode cX2_sameAhead 4 = .ok (.if_icmp .ge 26, 3) := by decide +kernel
theorem dX2_sameAhead_7 : decode cX2_sameAhead 7 = .ok (.aload_n 0, 1) := by decide +kernel
theorem dX2_sameAhead_8 : decode cX2_sameAhead 8 = .ok (.iload_n 2, 1) := by decide +kernel
theorem dX2_sameAhead_9 : decode cX2_sameAhead 9 = .ok (.bipush 6, 2) := by decide +kernel
theorem dX2_sameAhead_11 : decode cX2_sameAhead 11 = .ok (.imul, 1) := by decide +kernel
theorem dX2_sameAhead_12 : decode cX2_sameAhead 12 = .ok (.iload_n 1, 1) := by decide +kernel
theorem dX2_sameAhead_13 : decode cX2_sameAhead 13 = .ok (.bipush 6, 2) := by decide +kernel
theorem dX2_sameAhead_15 : decode cX2_sameAhead 15 = .ok (.imul, 1) := by decide +kernel
theorem dX2_sameAhead_16 : decode cX2_sameAhead 16 = .ok (.invokevirtual 247, 3) := by decide +kernel
theorem dX2_sameAhead_19 : decode cX2_sameAhead 19 = .ok (.ifCond .eq 5, 3) := by decide +kernel
theorem dX2_sameAhead_22 : decode cX2_sameAhead 22 = .ok (.iload_n 2, 1) := by decide +kernel
theorem dX2_sameAhead_23 : decode cX2_sameAhead 23 = .ok (.ireturn, 1) := by decide +kernel
theorem dX2_sameAhead_24 : decode cX2_sameAhead 24 = .ok (.iinc 2 1, 3) := by decide +kernel
theorem dX2_sameAhead_27 : decode cX2_sameAhead 27 = .ok (.goto (-25), 3) := by decide +kernel
theorem dX2_sameAhead_30 : decode cX2_sameAhead 30 = .ok (.iconst (-1), 1) := by decide +kernel
theorem dX2_sameAhead_31 : decode cX2_sameAhead 31 = .ok (.ireturn, 1) := by decide +kernel
theorem dX2_isSameState_0 : decode cX2_isSameState 0 = .ok (.iconst 0, 1) := by decide +kernel
theorem dX2_isSameState_1 : decode cX2_isSameState 1 = .ok (.istore_n 3, 1) := by decide +kernel
theorem dX2_isSameState_2 : decode cX2_isSameState 2 = .ok (.iload_n 3, 1) := by decide +kernel
theorem dX2_isSameState_3 : decode cX2_isSameState 3 = .ok (.iconst 4, 1) := by decide +kernel
theorem dX2_isSameState_4 : decode cX2_isSameState 4 = .ok (.if_icmp .gt 31, 3) := by decide +kernel
theorem dX2_isSameState_7 : decode cX2_isSameState 7 = .ok (.aload_n 0, 1) := by decide +kernel
theorem dX2_isSameState_8 : decode cX2_isSameState 8 = .ok (.getfield 41, 3) := by decide +kernel
theorem dX2_isSameState_11 : decode cX2_isSameState 11 = .ok (.iload_n 1, 1) := by decide +kernel
theorem dX2_isSameState_12 : decode cX2_isSameState 12 = .ok (.iload_n 3, 1) := by decide +kernel
theorem dX2_isSameState_13 : decode cX2_isSameState 13 = .ok (.iadd, 1) := by decide +kernel
theorem dX2_isSameState_14 : decode cX2_isSameState 14 = .ok (.laload, 1) := by decide +kernel
theorem dX2_isSameState_15 : decode cX2_isSameState 15 = .ok (.aload_n 0, 1) := by decide +kernel
theorem dX2_isSameState_16 : decode cX2_isSameState 16 = .ok (.getfield 41, 3) := by decide +kernel
theorem dX2_isSameState_19 : decode cX2_isSameState 19 = .ok (.iload_n 2, 1) := by decide +kernel
theorem dX2_isSameState_20 : decode cX2_isSameState 20 = .ok (.iload_n 3, 1) := by decide +kernel
theorem dX2_isSameState_21 : decode cX2_isSameState 21 = .ok (.iadd, 1) := by decide +kernel
theorem dX2_isSameState_22 : decode cX2_isSameState 22 = .ok (.laload, 1) := by decide +kernel
theorem dX2_isSameState_23 : decode cX2_isSameState 23 = .ok (.lcmp, 1) := by decide +kernel
theorem dX2_isSameState_24 : decode cX2_isSameState 24 = .ok (.ifCond .eq 5, 3) := by decide +kernel
theorem dX2_isSameState_27 : decode cX2_isSameState 27 = .ok (.iconst 0, 1) := by decide +kernel
theorem dX2_isSameState_28 : decode cX2_isSameState 28 = .ok (.ireturn, 1) := by decide +kernel
theorem dX2_isSameState_29 : decode cX2_isSameState 29 = .ok (.iinc 3 1, 3) := by decide +kernel
theorem dX2_isSameState_32 : decode cX2_isSameState 32 = .ok (.goto (-30), 3) := by decide +kernel
theorem dX2_isSameState_35 : decode cX2_isSameState 35 = .ok (.iconst 1, 1) := by decide +kernel
theorem dX2_isSameState_36 : decode cX2_isSameState 36 = .ok (.ireturn, 1) := by decide +kernel
set_option maxRecDepth 20000 in
theorem ggX2_keepRing_X2_eventInRow : GoodIn wsX2_keepRing wsX2_eventInRow := goodIn_r _ [7, 8, 31, 32, 33, 34, 35, 36, 37, 38, 39, 40, 41, 42, 43, 44, 45, 46, 47] (by decide +kernel) (by decide +kernel)
set_option maxRecDepth 20000 in
theorem gX2_keepRing_X2_eventInRow : GoodIn wsX2_keepRing (wsV RX2 250 RX2 yX2_eventInRow wsX2_eventInRow) := goodIn_app (goodIn_of _ (by decide +kernel)) ggX2_keepRing_X2_eventInRow
set_option maxRecDepth 20000 in
theorem ggX2_keepRing_X2_betweenNum : GoodIn wsX2_keepRing wsX2_betweenNum := goodIn_r _ [11, 12, 13, 6, 14, 15, 16, 17, 18] (by decide +kernel) (by decide +kernel)
set_option maxRecDepth 20000 in
theorem gX2_keepRing_X2_betweenNum : GoodIn wsX2_keepRing (va_wsS RX2 254 yX2_betweenNum wsX2_betweenNum) := goodIn_app (goodIn_of _ (by decide +kernel)) ggX2_keepRing_X2_betweenNum
set_option maxRecDepth 20000 in
theorem ggX2_keepRing_X2_betweenDen : GoodIn wsX2_keepRing wsX2_betweenDen := goodIn_r _ [21, 15, 16, 6, 17, 18] (by decide +kernel) (by decide +kernel)
set_option maxRecDepth 20000 in
theorem gX2_keepRing_X2_betweenDen : GoodIn wsX2_keepRing (va_wsS RX2 257 yX2_betweenDen wsX2_betweenDen) := goodIn_app (goodIn_of _ (by decide +kernel)) ggX2_keepRing_X2_betweenDen
set_option maxRecDepth 20000 in
theorem ggX2_keepRing_X2_commonOf : GoodIn wsX2_keepRing wsX2_commonOf := goodIn_r _ [24] (by decide +kernel) (by decide +kernel)
set_option maxRecDepth 20000 in
theorem gX2_keepRing_X2_commonOf : GoodIn wsX2_keepRing (va_wsS RX2 260 yX2_commonOf wsX2_commonOf) := goodIn_app (goodIn_of _ (by decide +kernel)) ggX2_keepRing_X2_commonOf
set_option maxRecDepth 20000 in
theorem ggX2_keepRing_X2_sideIn : GoodIn wsX2_keepRing wsX2_sideIn := goodIn_r _ [27] (by decide +kernel) (by decide +kernel)
set_option maxRecDepth 20000 in
theorem gX2_keepRing_X2_sideIn : GoodIn wsX2_keepRing (va_wsS RX2 181 yX2_sideIn wsX2_sideIn) := goodIn_app (goodIn_of _ (by decide +kernel)) ggX2_keepRing_X2_sideIn
set_option maxRecDepth 20000 in
theorem ggX2_keepRing_X2_turnedIn : GoodIn wsX2_keepRing wsX2_turnedIn := goodIn_r _ [30] (by decide +kernel) (by decide +kernel)
set_option maxRecDepth 20000 in
theorem gX2_keepRing_X2_turnedIn : GoodIn wsX2_keepRing (va_wsS RX2 177 yX2_turnedIn wsX2_turnedIn) := goodIn_app (goodIn_of _ (by decide +kernel)) ggX2_keepRing_X2_turnedIn
theorem dX2_keepRing_0 : decode cX2_keepRing 0 = .ok (.aload_n 0, 1) := by decide +kernel
theorem dX2_keepRing_1 : decode cX2_keepRing 1 = .ok (.iload_n 1, 1) := by decide +kernel
theorem dX2_keepRing_2 : decode cX2_keepRing 2 = .ok (.invokevirtual 250, 3) := by decide +kernel
theorem dX2_keepRing_5 : decode cX2_keepRing 5 = .ok (.aload_n 0, 1) := by decide +kernel
theorem dX2_keepRing_6 : decode cX2_keepRing 6 = .ok (.iload_n 2, 1) := by decide +kernel
theorem dX2_keepRing_7 : decode cX2_keepRing 7 = .ok (.invokevirtual 250, 3) := by decide +kernel
theorem dX2_keepRing_10 : decode cX2_keepRing 10 = .ok (.invokestatic 254, 3) := by decide +kernel
theorem dX2_keepRing_13 : decode cX2_keepRing 13 = .ok (.lstore_n 3, 1) := by decide +kernel
theorem dX2_keepRing_14 : decode cX2_keepRing 14 = .ok (.aload_n 0, 1) := by decide +kernel
theorem dX2_keepRing_15 : decode cX2_keepRing 15 = .ok (.iload_n 1, 1) := by decide +kernel
theorem dX2_keepRing_16 : decode cX2_keepRing 16 = .ok (.invokevirtual 250, 3) := by decide +kernel
theorem dX2_keepRing_19 : decode cX2_keepRing 19 = .ok (.aload_n 0, 1) := by decide +kernel
theorem dX2_keepRing_20 : decode cX2_keepRing 20 = .ok (.iload_n 2, 1) := by decide +kernel
theorem dX2_keepRing_21 : decode cX2_keepRing 21 = .ok (.invokevirtual 250, 3) := by decide +kernel
theorem dX2_keepRing_24 : decode cX2_keepRing 24 = .ok (.invokestatic 257, 3) := by decide +kernel
theorem dX2_keepRing_27 : decode cX2_keepRing 27 = .ok (.lstore 5, 2) := by decide +kernel
theorem dX2_keepRing_29 : decode cX2_keepRing 29 = .ok (.lload_n 3, 1) := by decide +kernel
theorem dX2_keepRing_30 : decode cX2_keepRing 30 = .ok (.lload 5, 2) := by decide +kernel
theorem dX2_keepRing_32 : decode cX2_keepRing 32 = .ok (.invokestatic 260, 3) := by decide +kernel
theorem dX2_keepRing_35 : decode cX2_keepRing 35 = .ok (.lstore 7, 2) := by decide +kernel
theorem dX2_keepRing_37 : decode cX2_keepRing 37 = .ok (.aload_n 0, 1) := by decide +kernel
theorem dX2_keepRing_38 : decode cX2_keepRing 38 = .ok (.getfield 44, 3) := by decide +kernel
theorem dX2_keepRing_41 : decode cX2_keepRing 41 = .ok (.iconst 0, 1) := by decide +kernel
theorem dX2_keepRing_42 : decode cX2_keepRing 42 = .ok (.iload_n 1, 1) := by decide +kernel
theorem dX2_keepRing_43 : decode cX2_keepRing 43 = .ok (.i2l, 1) := by decide +kernel
theorem dX2_keepRing_44 : decode cX2_keepRing 44 = .ok (.lastore, 1) := by decide +kernel
theorem dX2_keepRing_45 : decode cX2_keepRing 45 = .ok (.aload_n 0, 1) := by decide +kernel
theorem dX2_keepRing_46 : decode cX2_keepRing 46 = .ok (.getfield 44, 3) := by decide +kernel
theorem dX2_keepRing_49 : decode cX2_keepRing 49 = .ok (.iconst 1, 1) := by decide +kernel
theorem dX2_keepRing_50 : decode cX2_keepRing 50 = .ok (.iload_n 2, 1) := by decide +kernel
theorem dX2_keepRing_51 : decode cX2_keepRing 51 = .ok (.iload_n 1, 1) := by decide +kernel
theorem dX2_keepRing_52 : decode cX2_keepRing 52 = .ok (.isub, 1) := by decide +kernel
theorem dX2_keepRing_53 : decode cX2_keepRing 53 = .ok (.i2l, 1) := by decide +kernel
theorem dX2_keepRing_54 : decode cX2_keepRing 54 = .ok (.lastore, 1) := by decide +kernel
theorem dX2_keepRing_55 : decode cX2_keepRing 55 = .ok (.aload_n 0, 1) := by decide +kernel
theorem dX2_keepRing_56 : decode cX2_keepRing 56 = .ok (.getfield 44, 3) := by decide +kernel
theorem dX2_keepRing_59 : decode cX2_keepRing 59 = .ok (.iconst 2, 1) := by decide +kernel
theorem dX2_keepRing_60 : decode cX2_keepRing 60 = .ok (.lload_n 3, 1) := by decide +kernel
theorem dX2_keepRing_61 : decode cX2_keepRing 61 = .ok (.lload 7, 2) := by decide +kernel
theorem dX2_keepRing_63 : decode cX2_keepRing 63 = .ok (.ldiv, 1) := by decide +kernel
theorem dX2_keepRing_64 : decode cX2_keepRing 64 = .ok (.lastore, 1) := by decide +kernel
theorem dX2_keepRing_65 : decode cX2_keepRing 65 = .ok (.aload_n 0, 1) := by decide +kernel
theorem dX2_keepRing_66 : decode cX2_keepRing 66 = .ok (.getfield 44, 3) := by decide +kernel
theorem dX2_keepRing_69 : decode cX2_keepRing 69 = .ok (.iconst 3, 1) := by decide +kernel
theorem dX2_keepRing_70 : decode cX2_keepRing 70 = .ok (.lload 5, 2) := by decide +kernel
theorem dX2_keepRing_72 : decode cX2_keepRing 72 = .ok (.lload 7, 2) := by decide +kernel
theorem dX2_keepRing_74 : decode cX2_keepRing 74 = .ok (.ldiv, 1) := by decide +kernel
theorem dX2_keepRing_75 : decode cX2_keepRing 75 = .ok (.lastore, 1) := by decide +kernel
theorem dX2_keepRing_76 : decode cX2_keepRing 76 = .ok (.iconst 0, 1) := by decide +kernel
theorem dX2_keepRing_77 : decode cX2_keepRing 77 = .ok (.istore 9, 2) := by decide +kernel
theorem dX2_keepRing_79 : decode cX2_keepRing 79 = .ok (.iload 9, 2) := by decide +kernel
theorem dX2_keepRing_81 : decode cX2_keepRing 81 = .ok (.iconst 4, 1) := by decide +kernel
theorem dX2_keepRing_82 : decode cX2_keepRing 82 = .ok (.if_icmp .ge 19, 3) := by decide +kernel
theorem dX2_keepRing_85 : decode cX2_keepRing 85 = .ok (.aload_n 0, 1) := by decide +kernel
theorem dX2_keepRing_86 : decode cX2_keepRing 86 = .ok (.getfield 44, 3) := by decide +kernel
theorem dX2_keepRing_89 : decode cX2_keepRing 89 = .ok (.iconst 4, 1) := by decide +kernel
theorem dX2_keepRing_90 : decode cX2_keepRing 90 = .ok (.iload 9, 2) := by decide +kernel
theorem dX2_keepRing_92 : decode cX2_keepRing 92 = .ok (.iadd, 1) := by decide +kernel
theorem dX2_keepRing_93 : decode cX2_keepRing 93 = .ok (.lconst 0, 1) := by decide +kernel
theorem dX2_keepRing_94 : decode cX2_keepRing 94 = .ok (.lastore, 1) := by decide +kernel
theorem dX2_keepRing_95 : decode cX2_keepRing 95 = .ok (.iinc 9 1, 3) := by decide +kernel
theorem dX2_keepRing_98 : decode cX2_keepRing 98 = .ok (.goto (-19), 3) := by decide +kernel
theorem dX2_keepRing_101 : decode cX2_keepRing 101 = .ok (.iload_n 1, 1) := by decide +kernel
theorem dX2_keepRing_102 : decode cX2_keepRing 102 = .ok (.iconst 1, 1) := by decide +kernel
theorem dX2_keepRing_103 : decode cX2_keepRing 103 = .ok (.iadd, 1) := by decide +kernel
theorem dX2_keepRing_104 : decode cX2_keepRing 104 = .ok (.istore 9, 2) := by decide +kernel
theorem dX2_keepRing_106 : decode cX2_keepRing 106 = .ok (.iload 9, 2) := by decide +kernel
theorem dX2_keepRing_108 : decode cX2_keepRing 108 = .ok (.iload_n 2, 1) := by decide +kernel
theorem dX2_keepRing_109 : decode cX2_keepRing 109 = .ok (.if_icmp .gt 41, 3) := by decide +kernel
theorem dX2_keepRing_112 : decode cX2_keepRing 112 = .ok (.aload_n 0, 1) := by decide +kernel
theorem dX2_keepRing_113 : decode cX2_keepRing 113 = .ok (.iload 9, 2) := by decide +kernel
theorem dX2_keepRing_115 : decode cX2_keepRing 115 = .ok (.invokevirtual 250, 3) := by decide +kernel
theorem dX2_keepRing_118 : decode cX2_keepRing 118 = .ok (.invokestatic 181, 3) := by decide +kernel
theorem dX2_keepRing_121 : decode cX2_keepRing 121 = .ok (.ifCond .ne 23, 3) := by decide +kernel
theorem dX2_keepRing_124 : decode cX2_keepRing 124 = .ok (.aload_n 0, 1) := by decide +kernel
theorem dX2_keepRing_125 : decode cX2_keepRing 125 = .ok (.getfield 44, 3) := by decide +kernel
theorem dX2_keepRing_128 : decode cX2_keepRing 128 = .ok (.iconst 4, 1) := by decide +kernel
theorem dX2_keepRing_129 : decode cX2_keepRing 129 = .ok (.aload_n 0, 1) := by decide +kernel
theorem dX2_keepRing_130 : decode cX2_keepRing 130 = .ok (.iload 9, 2) := by decide +kernel
theorem dX2_keepRing_132 : decode cX2_keepRing 132 = .ok (.invokevirtual 250, 3) := by decide +kernel
theorem dX2_keepRing_135 : decode cX2_keepRing 135 = .ok (.invokestatic 177, 3) := by decide +kernel
theorem dX2_keepRing_138 : decode cX2_keepRing 138 = .ok (.iadd, 1) := by decide +kernel
theorem dX2_keepRing_139 : decode cX2_keepRing 139 = .ok (.dup2, 1) := by decide +kernel
theorem dX2_keepRing_140 : decode cX2_keepRing 140 = .ok (.laload, 1) := by decide +kernel
theorem dX2_keepRing_141 : decode cX2_keepRing 141 = .ok (.lconst 1, 1) := by decide +kernel
theorem dX2_keepRing_142 : decode cX2_keepRing 142 = .ok (.ladd, 1) := by decide +kernel
theorem dX2_keepRing_143 : decode cX2_keepRing 143 = .ok (.lastore, 1) := by decide +kernel
theorem dX2_keepRing_144 : decode cX2_keepRing 144 = .ok (.iinc 9 1, 3) := by decide +kernel
theorem dX2_keepRing_147 : decode cX2_keepRing 147 = .ok (.goto (-41), 3) := by decide +kernel
theorem dX2_keepRing_150 : decode cX2_keepRing 150 = .ok (.aload_n 0, 1) := by decide +kernel
theorem dX2_keepRing_151 : decode cX2_keepRing 151 = .ok (.iconst 1, 1) := by decide +kernel
theorem dX2_keepRing_152 : decode cX2_keepRing 152 = .ok (.putfield 47, 3) := by decide +kernel
theorem dX2_keepRing_155 : decode cX2_keepRing 155 = .ok (.return_, 1) := by decide +kernel
theorem dX2_eventInRow_0 : decode cX2_eventInRow 0 = .ok (.aload_n 0, 1) := by decide +kernel
theorem dX2_eventInRow_1 : decode cX2_eventInRow 1 = .ok (.getfield 41, 3) := by decide +kernel
theorem dX2_eventInRow_4 : decode cX2_eventInRow 4 = .ok (.iload_n 1, 1) := by decide +kernel
theorem dX2_eventInRow_5 : decode cX2_eventInRow 5 = .ok (.bipush 6, 2) := by decide +kernel
theorem dX2_eventInRow_7 : decode cX2_eventInRow 7 = .ok (.imul, 1) := by decide +kernel
theorem dX2_eventInRow_8 : decode cX2_eventInRow 8 = .ok (.iconst 5, 1) := by decide +kernel
theorem dX2_eventInRow_9 : decode cX2_eventInRow 9 = .ok (.iadd, 1) := by decide +kernel
theorem dX2_eventInRow_10 : decode cX2_eventInRow 10 = .ok (.laload, 1) := by decide +kernel
theorem dX2_eventInRow_11 : decode cX2_eventInRow 11 = .ok (.lreturn, 1) := by decide +kernel
set_option maxRecDepth 20000 in
theorem ggX2_beatTerm_X0_span : GoodIn wsX2_beatTerm wsX0_span := goodIn_r _ [8, 9, 10, 32, 33, 34, 35, 36, 37, 38, 39, 40, 41, 42, 43] (by decide +kernel) (by decide +kernel)
set_option maxRecDepth 20000 in
theorem gX2_beatTerm_X0_span : GoodIn wsX2_beatTerm (wsV RX2 263 RX0 yX0_span wsX0_span) := goodIn_app (goodIn_of _ (by decide +kernel)) ggX2_beatTerm_X0_span
set_option maxRecDepth 20000 in
theorem ggX2_beatTerm_X2_commonOf : GoodIn wsX2_beatTerm wsX2_commonOf := goodIn_r _ [14] (by decide +kernel) (by decide +kernel)
set_option maxRecDepth 20000 in
theorem gX2_beatTerm_X2_commonOf : GoodIn wsX2_beatTerm (va_wsS RX2 260 yX2_commonOf wsX2_commonOf) := goodIn_app (goodIn_of _ (by decide +kernel)) ggX2_beatTerm_X2_commonOf
theorem dX2_beatTerm_0 : decode cX2_beatTerm 0 = .ok (.aload_n 0, 1) := by decide +kernel
theorem dX2_beatTerm_1 : decode cX2_beatTerm 1 = .ok (.getfield 12, 3) := by decide +kernel
theorem dX2_beatTerm_4 : decode cX2_beatTerm 4 = .ok (.getfield 85, 3) := by decide +kernel
theorem dX2_beatTerm_7 : decode cX2_beatTerm 7 = .ok (.iload_n 1, 1) := by decide +kernel
theorem dX2_beatTerm_8 : decode cX2_beatTerm 8 = .ok (.iaload, 1) := by decide +kernel
theorem dX2_beatTerm_9 : decode cX2_beatTerm 9 = .ok (.istore_n 3, 1) := by decide +kernel
theorem dX2_beatTerm_10 : decode cX2_beatTerm 10 = .ok (.aload_n 0, 1) := by decide +kernel
theorem dX2_beatTerm_11 : decode cX2_beatTerm 11 = .ok (.getfield 12, 3) := by decide +kernel
theorem dX2_beatTerm_14 : decode cX2_beatTerm 14 = .ok (.getfield 88, 3) := by decide +kernel
theorem dX2_beatTerm_17 : decode cX2_beatTerm 17 = .ok (.iload_n 1, 1) := by decide +kernel
theorem dX2_beatTerm_18 : decode cX2_beatTerm 18 = .ok (.iaload, 1) := by decide +kernel
theorem dX2_beatTerm_19 : decode cX2_beatTerm 19 = .ok (.istore 4, 2) := by decide +kernel
theorem dX2_beatTerm_21 : decode cX2_beatTerm 21 = .ok (.aload_n 0, 1) := by decide +kernel
theorem dX2_beatTerm_22 : decode cX2_beatTerm 22 = .ok (.getfield 12, 3) := by decide +kernel
theorem dX2_beatTerm_25 : decode cX2_beatTerm 25 = .ok (.iload_n 1, 1) := by decide +kernel
theorem dX2_beatTerm_26 : decode cX2_beatTerm 26 = .ok (.invokevirtual 263, 3) := by decide +kernel
theorem dX2_beatTerm_29 : decode cX2_beatTerm 29 = .ok (.iload_n 3, 1) := by decide +kernel
theorem dX2_beatTerm_30 : decode cX2_beatTerm 30 = .ok (.iload 4, 2) := by decide +kernel
theorem dX2_beatTerm_32 : decode cX2_beatTerm 32 = .ok (.iadd, 1) := by decide +kernel
theorem dX2_beatTerm_33 : decode cX2_beatTerm 33 = .ok (.imul, 1) := by decide +kernel
theorem dX2_beatTerm_34 : decode cX2_beatTerm 34 = .ok (.istore 5, 2) := by decide +kernel
theorem dX2_beatTerm_36 : decode cX2_beatTerm 36 = .ok (.iload_n 3, 1) := by decide +kernel
theorem dX2_beatTerm_37 : decode cX2_beatTerm 37 = .ok (.iload 4, 2) := by decide +kernel
theorem dX2_beatTerm_39 : decode cX2_beatTerm 39 = .ok (.imul, 1) := by decide +kernel
theorem dX2_beatTerm_40 : decode cX2_beatTerm 40 = .ok (.istore 6, 2) := by decide +kernel
theorem dX2_beatTerm_42 : decode cX2_beatTerm 42 = .ok (.iload_n 2, 1) := by decide +kernel
theorem dX2_beatTerm_43 : decode cX2_beatTerm 43 = .ok (.ifCond .eq 8, 3) := by decide +kernel
theorem dX2_beatTerm_46 : decode cX2_beatTerm 46 = .ok (.iload 5, 2) := by decide +kernel
theorem dX2_beatTerm_48 : decode cX2_beatTerm 48 = .ok (.goto 5, 3) := by decide +kernel
theorem dX2_beatTerm_51 : decode cX2_beatTerm 51 = .ok (.iload 6, 2) := by decide +kernel
theorem dX2_beatTerm_53 : decode cX2_beatTerm 53 = .ok (.iload 5, 2) := by decide +kernel
theorem dX2_beatTerm_55 : decode cX2_beatTerm 55 = .ok (.i2l, 1) := by decide +kernel
theorem dX2_beatTerm_56 : decode cX2_beatTerm 56 = .ok (.iload 6, 2) := by decide +kernel
theorem dX2_beatTerm_58 : decode cX2_beatTerm 58 = .ok (.i2l, 1) := by decide +kernel
theorem dX2_beatTerm_59 : decode cX2_beatTerm 59 = .ok (.invokestatic 260, 3) := by decide +kernel
theorem dX2_beatTerm_62 : decode cX2_beatTerm 62 = .ok (.l2i, 1) := by decide +kernel
theorem dX2_beatTerm_63 : decode cX2_beatTerm 63 = .ok (.idiv, 1) := by decide +kernel
theorem dX2_beatTerm_64 : decode cX2_beatTerm 64 = .ok (.ireturn, 1) := by decide +kernel
set_option maxRecDepth 20000 in
theorem ggX2_findWays_X0_span : GoodIn wsX2_findWays wsX0_span := goodIn_r _ [9, 10, 11, 29, 30, 31, 32, 33, 34, 35, 36, 37, 38, 39, 40] (by decide +kernel) (by decide +kernel)
set_option maxRecDepth 20000 in
theorem gX2_findWays_X0_span : GoodIn wsX2_findWays (wsV RX2 263 RX0 yX0_span wsX0_span) := goodIn_app (goodIn_of _ (by decide +kernel)) ggX2_findWays_X0_span
theorem dX2_findWays_0 : decode cX2_findWays 0 = .ok (.iconst 0, 1) := by decide +kernel
theorem dX2_findWays_1 : decode cX2_findWays 1 = .ok (.istore 6, 2) := by decide +kernel
theorem dX2_findWays_3 : decode cX2_findWays 3 = .ok (.iconst 0, 1) := by decide +kernel
theorem dX2_findWays_4 : decode cX2_findWays 4 = .ok (.istore 7, 2) := by decide +kernel
theorem dX2_findWays_6 : decode cX2_findWays 6 = .ok (.iload 7, 2) := by decide +kernel
theorem dX2_findWays_8 : decode cX2_findWays 8 = .ok (.aload_n 0, 1) := by decide +kernel
theorem dX2_findWays_9 : decode cX2_findWays 9 = .ok (.getfield 54, 3) := by decide +kernel
theorem dX2_findWays_12 : decode cX2_findWays 12 = .ok (.if_icmp .ge 113, 3) := by decide +kernel
theorem dX2_findWays_15 : decode cX2_findWays 15 = .ok (.iconst 0, 1) := by decide +kernel
theorem dX2_findWays_16 : decode cX2_findWays 16 = .ok (.istore 8, 2) := by decide +kernel
theorem dX2_findWays_18 : decode cX2_findWays 18 = .ok (.iload 8, 2) := by decide +kernel
theorem dX2_findWays_20 : decode cX2_findWays 20 = .ok (.aload_n 0, 1) := by decide +kernel
theorem dX2_findWays_21 : decode cX2_findWays 21 = .ok (.getfield 54, 3) := by decide +kernel
theorem dX2_findWays_24 : decode cX2_findWays 24 = .ok (.if_icmp .ge 95, 3) := by decide +kernel
theorem dX2_findWays_27 : decode cX2_findWays 27 = .ok (.aload_n 0, 1) := by decide +kernel
theorem dX2_findWays_28 : decode cX2_findWays 28 = .ok (.getfield 12, 3) := by decide +kernel
theorem dX2_findWays_31 : decode cX2_findWays 31 = .ok (.iload_n 1, 1) := by decide +kernel
theorem dX2_findWays_32 : decode cX2_findWays 32 = .ok (.invokevirtual 263, 3) := by decide +kernel
theorem dX2_findWays_35 : decode cX2_findWays 35 = .ok (.aload_n 0, 1) := by decide +kernel
theorem dX2_findWays_36 : decode cX2_findWays 36 = .ok (.getfield 51, 3) := by decide +kernel
theorem dX2_findWays_39 : decode cX2_findWays 39 = .ok (.iload 7, 2) := by decide +kernel
theorem dX2_findWays_41 : decode cX2_findWays 41 = .ok (.iaload, 1) := by decide +kernel
theorem dX2_findWays_42 : decode cX2_findWays 42 = .ok (.aload_n 0, 1) := by decide +kernel
theorem dX2_findWays_43 : decode cX2_findWays 43 = .ok (.getfield 51, 3) := by decide +kernel
theorem dX2_findWays_46 : decode cX2_findWays 46 = .ok (.iload 8, 2) := by decide +kernel
theorem dX2_findWays_48 : decode cX2_findWays 48 = .ok (.iaload, 1) := by decide +kernel
theorem dX2_findWays_49 : decode cX2_findWays 49 = .ok (.iadd, 1) := by decide +kernel
theorem dX2_findWays_50 : decode cX2_findWays 50 = .ok (.imul, 1) := by decide +kernel
theorem dX2_findWays_51 : decode cX2_findWays 51 = .ok (.istore 9, 2) := by decide +kernel
theorem dX2_findWays_53 : decode cX2_findWays 53 = .ok (.aload_n 0, 1) := by decide +kernel
theorem dX2_findWays_54 : decode cX2_findWays 54 = .ok (.getfield 51, 3) := by decide +kernel
theorem dX2_findWays_57 : decode cX2_findWays 57 = .ok (.iload 7, 2) := by decide +kernel
theorem dX2_findWays_59 : decode cX2_findWays 59 = .ok (.iaload, 1) := by decide +kernel
theorem dX2_findWays_60 : decode cX2_findWays 60 = .ok (.aload_n 0, 1) := by decide +kernel
theorem dX2_findWays_61 : decode cX2_findWays 61 = .ok (.getfield 51, 3) := by decide +kernel
theorem dX2_findWays_64 : decode cX2_findWays 64 = .ok (.iload 8, 2) := by decide +kernel
theorem dX2_findWays_66 : decode cX2_findWays 66 = .ok (.iaload, 1) := by decide +kernel
theorem dX2_findWays_67 : decode cX2_findWays 67 = .ok (.imul, 1) := by decide +kernel
theorem dX2_findWays_68 : decode cX2_findWays 68 = .ok (.istore 10, 2) := by decide +kernel
theorem dX2_findWays_70 : decode cX2_findWays 70 = .ok (.iload 9, 2) := by decide +kernel
theorem dX2_findWays_72 : decode cX2_findWays 72 = .ok (.i2l, 1) := by decide +kernel
theorem dX2_findWays_73 : decode cX2_findWays 73 = .ok (.lload 4, 2) := by decide +kernel
theorem dX2_findWays_75 : decode cX2_findWays 75 = .ok (.lmul, 1) := by decide +kernel
theorem dX2_findWays_76 : decode cX2_findWays 76 = .ok (.lload_n 2, 1) := by decide +kernel
theorem dX2_findWays_77 : decode cX2_findWays 77 = .ok (.iload 10, 2) := by decide +kernel
theorem dX2_findWays_79 : decode cX2_findWays 79 = .ok (.i2l, 1) := by decide +kernel
theorem dX2_findWays_80 : decode cX2_findWays 80 = .ok (.lmul, 1) := by decide +kernel
theorem dX2_findWays_81 : decode cX2_findWays 81 = .ok (.lcmp, 1) := by decide +kernel
theorem dX2_findWays_82 : decode cX2_findWays 82 = .ok (.ifCond .ne 31, 3) := by decide +kernel
theorem dX2_findWays_85 : decode cX2_findWays 85 = .ok (.aload_n 0, 1) := by decide +kernel
theorem dX2_findWays_86 : decode cX2_findWays 86 = .ok (.getfield 66, 3) := by decide +kernel
theorem dX2_findWays_89 : decode cX2_findWays 89 = .ok (.iload 6, 2) := by decide +kernel
theorem dX2_findWays_91 : decode cX2_findWays 91 = .ok (.aload_n 0, 1) := by decide +kernel
theorem dX2_findWays_92 : decode cX2_findWays 92 = .ok (.getfield 51, 3) := by decide +kernel
theorem dX2_findWays_95 : decode cX2_findWays 95 = .ok (.iload 7, 2) := by decide +kernel
theorem dX2_findWays_97 : decode cX2_findWays 97 = .ok (.iaload, 1) := by decide +kernel
theorem dX2_findWays_98 : decode cX2_findWays 98 = .ok (.bipush 100, 2) := by decide +kernel
theorem dX2_findWays_100 : decode cX2_findWays 100 = .ok (.imul, 1) := by decide +kernel
theorem dX2_findWays_101 : decode cX2_findWays 101 = .ok (.aload_n 0, 1) := by decide +kernel
theorem dX2_findWays_102 : decode cX2_findWays 102 = .ok (.getfield 51, 3) := by decide +kernel
theorem dX2_findWays_105 : decode cX2_findWays 105 = .ok (.iload 8, 2) := by decide +kernel
theorem dX2_findWays_107 : decode cX2_findWays 107 = .ok (.iaload, 1) := by decide +kernel
theorem dX2_findWays_108 : decode cX2_findWays 108 = .ok (.iadd, 1) := by decide +kernel
theorem dX2_findWays_109 : decode cX2_findWays 109 = .ok (.iastore, 1) := by decide +kernel
theorem dX2_findWays_110 : decode cX2_findWays 110 = .ok (.iinc 6 1, 3) := by decide +kernel
theorem dX2_findWays_113 : decode cX2_findWays 113 = .ok (.iinc 8 1, 3) := by decide +kernel
theorem dX2_findWays_116 : decode cX2_findWays 116 = .ok (.goto (-98), 3) := by decide +kernel
theorem dX2_findWays_119 : decode cX2_findWays 119 = .ok (.iinc 7 1, 3) := by decide +kernel
theorem dX2_findWays_122 : decode cX2_findWays 122 = .ok (.goto (-116), 3) := by decide +kernel
theorem dX2_findWays_125 : decode cX2_findWays 125 = .ok (.iload 6, 2) := by decide +kernel
theorem dX2_findWays_127 : decode cX2_findWays 127 = .ok (.ireturn, 1) := by decide +kernel
set_option maxRecDepth 20000 in
theorem ggX2_findFaults_X0_ratesOf : GoodIn wsX2_findFaults wsX0_ratesOf := goodIn_r _ [10, 11, 12, 126, 127, 128, 129, 130, 131, 132, 133, 134, 135, 136, 137] (by decide +kernel) (by decide +kernel)
set_option maxRecDepth 20000 in
theorem gX2_findFaults_X0_ratesOf : GoodIn wsX2_findFaults (wsV RX2 122 RX0 yX0_ratesOf wsX0_ratesOf) := goodIn_app (goodIn_of _ (by decide +kernel)) ggX2_findFaults_X0_ratesOf
set_option maxRecDepth 20000 in
theorem ggX2_findFaults_X2_isMeasuredSo : GoodIn wsX2_findFaults wsX2_isMeasuredSo := goodIn_r _ [17, 18, 19, 1, 20, 21, 22, 23, 24, 25, 26, 27, 28, 29, 30, 31, 32, 33, 34, 35, 36, 37, 38, 39, 40, 41, 42, 43, 44, 45, 46, 47, 48, 49, 50, 51, 52, 53, 54, 16, 55, 56, 57, 58, 59, 60, 61, 62, 63, 64, 65, 66, 67, 68, 69, 70, 71, 72, 73, 74, 75, 76, 77, 78, 79, 80, 81, 82, 83, 84, 85, 86, 87, 88, 89, 90, 91, 92, 93, 94, 95, 96, 97, 98, 99, 100, 101, 102, 103, 104, 105, 106, 107, 108, 109, 110, 111, 112, 113, 114, 115, 116, 117, 118, 119, 120, 121, 122, 123, 124, 125, 138, 139, 140, 141, 142, 143, 144, 145, 146, 147, 126, 127, 128, 129, 130, 131, 132, 133, 134, 135, 136, 137] (by decide +kernel) (by decide +kernel)
set_option maxRecDepth 20000 in
theorem gX2_findFaults_X2_isMeasuredSo : GoodIn wsX2_findFaults (wsV RX2 222 RX2 yX2_isMeasuredSo wsX2_isMeasuredSo) := goodIn_app (goodIn_of _ (by decide +kernel)) ggX2_findFaults_X2_isMeasuredSo
theorem dX2_findFaults_0 : decode cX2_findFaults 0 = .ok (.iconst 0, 1) := by decide +kernel
theorem dX2_findFaults_1 : decode cX2_findFaults 1 = .ok (.istore_n 2, 1) := by decide +kernel
theorem dX2_findFaults_2 : decode cX2_findFaults 2 = .ok (.iconst 0, 1) := by decide +kernel
theorem dX2_findFaults_3 : decode cX2_findFaults 3 = .ok (.istore_n 3, 1) := by decide +kernel
theorem dX2_findFaults_4 : decode cX2_findFaults 4 = .ok (.iload_n 3, 1) := by decide +kernel
theorem dX2_findFaults_5 : decode cX2_findFaults 5 = .ok (.aload_n 0, 1) := by decide +kernel
theorem dX2_findFaults_6 : decode cX2_findFaults 6 = .ok (.getfield 12, 3) := by decide +kernel
theorem dX2_findFaults_9 : decode cX2_findFaults 9 = .ok (.getfield 76, 3) := by decide +kernel
theorem dX2_findFaults_12 : decode cX2_findFaults 12 = .ok (.if_icmp .ge 124, 3) := by decide +kernel
theorem dX2_findFaults_15 : decode cX2_findFaults 15 = .ok (.iconst 0, 1) := by decide +kernel
theorem dX2_findFaults_16 : decode cX2_findFaults 16 = .ok (.istore 4, 2) := by decide +kernel
theorem dX2_findFaults_18 : decode cX2_findFaults 18 = .ok (.iload 4, 2) := by decide +kernel
theorem dX2_findFaults_20 : decode cX2_findFaults 20 = .ok (.iconst 1, 1) := by decide +kernel
theorem dX2_findFaults_21 : decode cX2_findFaults 21 = .ok (.if_icmp .gt 109, 3) := by decide +kernel
theorem dX2_findFaults_24 : decode cX2_findFaults 24 = .ok (.aload_n 0, 1) := by decide +kernel
theorem dX2_findFaults_25 : decode cX2_findFaults 25 = .ok (.getfield 12, 3) := by decide +kernel
theorem dX2_findFaults_28 : decode cX2_findFaults 28 = .ok (.iload 4, 2) := by decide +kernel
theorem dX2_findFaults_30 : decode cX2_findFaults 30 = .ok (.invokevirtual 122, 3) := by decide +kernel
theorem dX2_findFaults_33 : decode cX2_findFaults 33 = .ok (.astore 5, 2) := by decide +kernel
theorem dX2_findFaults_35 : decode cX2_findFaults 35 = .ok (.aload 5, 2) := by decide +kernel
theorem dX2_findFaults_37 : decode cX2_findFaults 37 = .ok (.iload_n 3, 1) := by decide +kernel
theorem dX2_findFaults_38 : decode cX2_findFaults 38 = .ok (.iaload, 1) := by decide +kernel
theorem dX2_findFaults_39 : decode cX2_findFaults 39 = .ok (.istore 6, 2) := by decide +kernel
theorem dX2_findFaults_41 : decode cX2_findFaults 41 = .ok (.iconst 0, 1) := by decide +kernel
theorem dX2_findFaults_42 : decode cX2_findFaults 42 = .ok (.istore 7, 2) := by decide +kernel
theorem dX2_findFaults_44 : decode cX2_findFaults 44 = .ok (.iload 7, 2) := by decide +kernel
theorem dX2_findFaults_46 : decode cX2_findFaults 46 = .ok (.aload_n 0, 1) := by decide +kernel
theorem dX2_findFaults_47 : decode cX2_findFaults 47 = .ok (.getfield 54, 3) := by decide +kernel
theorem dX2_findFaults_50 : decode cX2_findFaults 50 = .ok (.if_icmp .ge 68, 3) := by decide +kernel
theorem dX2_findFaults_53 : decode cX2_findFaults 53 = .ok (.aload 5, 2) := by decide +kernel
theorem dX2_findFaults_55 : decode cX2_findFaults 55 = .ok (.iload_n 3, 1) := by decide +kernel
theorem dX2_findFaults_56 : decode cX2_findFaults 56 = .ok (.aload_n 0, 1) := by decide +kernel
theorem dX2_findFaults_57 : decode cX2_findFaults 57 = .ok (.getfield 51, 3) := by decide +kernel
theorem dX2_findFaults_60 : decode cX2_findFaults 60 = .ok (.iload 7, 2) := by decide +kernel
theorem dX2_findFaults_62 : decode cX2_findFaults 62 = .ok (.iaload, 1) := by decide +kernel
theorem dX2_findFaults_63 : decode cX2_findFaults 63 = .ok (.iastore, 1) := by decide +kernel
theorem dX2_findFaults_64 : decode cX2_findFaults 64 = .ok (.aload_n 0, 1) := by decide +kernel
theorem dX2_findFaults_65 : decode cX2_findFaults 65 = .ok (.getfield 51, 3) := by decide +kernel
theorem dX2_findFaults_68 : decode cX2_findFaults 68 = .ok (.iload 7, 2) := by decide +kernel
theorem dX2_findFaults_70 : decode cX2_findFaults 70 = .ok (.iaload, 1) := by decide +kernel
theorem dX2_findFaults_71 : decode cX2_findFaults 71 = .ok (.iload 6, 2) := by decide +kernel
theorem dX2_findFaults_73 : decode cX2_findFaults 73 = .ok (.if_icmp .eq 39, 3) := by decide +kernel
theorem dX2_findFaults_76 : decode cX2_findFaults 76 = .ok (.aload_n 0, 1) := by decide +kernel
theorem dX2_findFaults_77 : decode cX2_findFaults 77 = .ok (.iload_n 1, 1) := by decide +kernel
theorem dX2_findFaults_78 : decode cX2_findFaults 78 = .ok (.invokevirtual 222, 3) := by decide +kernel
theorem dX2_findFaults_81 : decode cX2_findFaults 81 = .ok (.ifCond .eq 31, 3) := by decide +kernel
theorem dX2_findFaults_84 : decode cX2_findFaults 84 = .ok (.aload_n 0, 1) := by decide +kernel
theorem dX2_findFaults_85 : decode cX2_findFaults 85 = .ok (.getfield 69, 3) := by decide +kernel
theorem dX2_findFaults_88 : decode cX2_findFaults 88 = .ok (.iload_n 2, 1) := by decide +kernel
theorem dX2_findFaults_89 : decode cX2_findFaults 89 = .ok (.iload_n 3, 1) := by decide +kernel
theorem dX2_findFaults_90 : decode cX2_findFaults 90 = .ok (.sipush 1000, 3) := by decide +kernel
theorem dX2_findFaults_93 : decode cX2_findFaults 93 = .ok (.imul, 1) := by decide +kernel
theorem dX2_findFaults_94 : decode cX2_findFaults 94 = .ok (.iload 4, 2) := by decide +kernel
theorem dX2_findFaults_96 : decode cX2_findFaults 96 = .ok (.bipush 100, 2) := by decide +kernel
theorem dX2_findFaults_98 : decode cX2_findFaults 98 = .ok (.imul, 1) := by decide +kernel
theorem dX2_findFaults_99 : decode cX2_findFaults 99 = .ok (.iadd, 1) := by decide +kernel
theorem dX2_findFaults_100 : decode cX2_findFaults 100 = .ok (.aload_n 0, 1) := by decide +kernel
theorem dX2_findFaults_101 : decode cX2_findFaults 101 = .ok (.getfield 51, 3) := by decide +kernel
theorem dX2_findFaults_104 : decode cX2_findFaults 104 = .ok (.iload 7, 2) := by decide +kernel
theorem dX2_findFaults_106 : decode cX2_findFaults 106 = .ok (.iaload, 1) := by decide +kernel
theorem dX2_findFaults_107 : decode cX2_findFaults 107 = .ok (.iadd, 1) := by decide +kernel
theorem dX2_findFaults_108 : decode cX2_findFaults 108 = .ok (.iastore, 1) := by decide +kernel
theorem dX2_findFaults_109 : decode cX2_findFaults 109 = .ok (.iinc 2 1, 3) := by decide +kernel
theorem dX2_findFaults_112 : decode cX2_findFaults 112 = .ok (.iinc 7 1, 3) := by decide +kernel
theorem dX2_findFaults_115 : decode cX2_findFaults 115 = .ok (.goto (-71), 3) := by decide +kernel
theorem dX2_findFaults_118 : decode cX2_findFaults 118 = .ok (.aload 5, 2) := by decide +kernel
theorem dX2_findFaults_120 : decode cX2_findFaults 120 = .ok (.iload_n 3, 1) := by decide +kernel
theorem dX2_findFaults_121 : decode cX2_findFaults 121 = .ok (.iload 6, 2) := by decide +kernel
theorem dX2_findFaults_123 : decode cX2_findFaults 123 = .ok (.iastore, 1) := by decide +kernel
theorem dX2_findFaults_124 : decode cX2_findFaults 124 = .ok (.iinc 4 1, 3) := by decide +kernel
theorem dX2_findFaults_127 : decode cX2_findFaults 127 = .ok (.goto (-109), 3) := by decide +kernel
theorem dX2_findFaults_130 : decode cX2_findFaults 130 = .ok (.iinc 3 1, 3) := by decide +kernel
theorem dX2_findFaults_133 : decode cX2_findFaults 133 = .ok (.goto (-129), 3) := by decide +kernel
theorem dX2_findFaults_136 : decode cX2_findFaults 136 = .ok (.iload_n 2, 1) := by decide +kernel
theorem dX2_findFaults_137 : decode cX2_findFaults 137 = .ok (.ireturn, 1) := by decide +kernel
set_option maxRecDepth 20000 in
theorem ggX2_isMeasuredSo_X1_restart : GoodIn wsX2_isMeasuredSo wsX1_restart := goodIn_r _ [10, 11, 12, 13, 14, 15, 16, 17, 111, 112, 113, 114, 115, 116, 117, 118, 119, 120, 121, 122, 123, 124, 125, 126, 127, 128, 129, 130, 131, 132] (by decide +kernel) (by decide +kernel)
set_option maxRecDepth 20000 in
theorem gX2_isMeasuredSo_X1_restart : GoodIn wsX2_isMeasuredSo (wsV RX2 226 RX1 yX1_restart wsX1_restart) := goodIn_app (goodIn_of _ (by decide +kernel)) ggX2_isMeasuredSo_X1_restart
set_option maxRecDepth 20000 in
theorem ggX2_isMeasuredSo_X1_advance : GoodIn wsX2_isMeasuredSo wsX1_advance := goodIn_r _ [21, 22, 16, 23, 24, 25, 26, 27, 9, 28, 29, 15, 13, 14, 30, 31, 32, 33, 34, 35, 36, 37, 11, 12, 38, 39, 40, 41, 42, 43, 44, 45, 46, 47, 17, 48, 49, 50, 51, 52, 53, 54, 55, 56, 57, 58, 59, 60, 61, 62, 63, 64, 65, 66, 67, 68, 121, 122, 123, 124, 125, 126, 127, 128, 129, 130, 131, 132, 111, 112, 113, 114, 115, 116, 117, 118, 119, 120] (by decide +kernel) (by decide +kernel)
set_option maxRecDepth 20000 in
theorem gX2_isMeasuredSo_X1_advance : GoodIn wsX2_isMeasuredSo (wsV RX2 130 RX1 yX1_advance wsX1_advance) := goodIn_app (goodIn_of _ (by decide +kernel)) ggX2_isMeasuredSo_X1_advance
set_option maxRecDepth 20000 in
theorem ggX2_isMeasuredSo_X1_packedEvent : GoodIn wsX2_isMeasuredSo wsX1_packedEvent := goodIn_r _ [72, 11, 12, 23, 24, 73, 39, 74, 111, 112, 113, 114, 115, 116, 117, 118, 119, 120] (by decide +kernel) (by decide +kernel)
set_option maxRecDepth 20000 in
theorem gX2_isMeasuredSo_X1_packedEvent : GoodIn wsX2_isMeasuredSo (wsV RX2 230 RX1 yX1_packedEvent wsX1_packedEvent) := goodIn_app (goodIn_of _ (by decide +kernel)) ggX2_isMeasuredSo_X1_packedEvent
set_option maxRecDepth 20000 in
theorem ggX2_isMeasuredSo_X2_isMeasure : GoodIn wsX2_isMeasuredSo wsX2_isMeasure := goodIn_r _ [78, 79, 80, 81, 82, 39, 83, 84, 85, 86, 87, 88, 89, 90, 91, 92, 93, 94, 95, 96, 97, 98, 99, 100, 101, 102, 103, 104, 105, 106, 107, 108, 109, 110] (by decide +kernel) (by decide +kernel)
set_option maxRecDepth 20000 in
theorem gX2_isMeasuredSo_X2_isMeasure : GoodIn wsX2_isMeasuredSo (wsV RX2 266 RX2 yX2_isMeasure wsX2_isMeasure) := goodIn_app (goodIn_of _ (by decide +kernel)) ggX2_isMeasuredSo_X2_isMeasure
theorem dX2_isMeasuredSo_0 : decode cX2_isMeasuredSo 0 = .ok (.aload_n 0, 1) := by decide +kernel
theorem dX2_isMeasuredSo_1 : decode cX2_isMeasuredSo 1 = .ok (.getfield 63, 3) := by decide +kernel
theorem dX2_isMeasuredSo_4 : decode cX2_isMeasuredSo 4 = .ok (.ifCond .ne 5, 3) := by decide +kernel
theorem dX2_isMeasuredSo_7 : decode cX2_isMeasuredSo 7 = .ok (.iconst 1, 1) := by decide +kernel
theorem dX2_isMeasuredSo_8 : decode cX2_isMeasuredSo 8 = .ok (.ireturn, 1) := by decide +kernel
theorem dX2_isMeasuredSo_9 : decode cX2_isMeasuredSo 9 = .ok (.aload_n 0, 1) := by decide +kernel
theorem dX2_isMeasuredSo_10 : decode cX2_isMeasuredSo 10 = .ok (.getfield 23, 3) := by decide +kernel
theorem dX2_isMeasuredSo_13 : decode cX2_isMeasuredSo 13 = .ok (.aload_n 0, 1) := by decide +kernel
theorem dX2_isMeasuredSo_14 : decode cX2_isMeasuredSo 14 = .ok (.getfield 12, 3) := by decide +kernel
theorem dX2_isMeasuredSo_17 : decode cX2_isMeasuredSo 17 = .ok (.invokevirtual 226, 3) := by decide +kernel
theorem dX2_isMeasuredSo_20 : decode cX2_isMeasuredSo 20 = .ok (.iconst 0, 1) := by decide +kernel
theorem dX2_isMeasuredSo_21 : decode cX2_isMeasuredSo 21 = .ok (.istore_n 2, 1) := by decide +kernel
theorem dX2_isMeasuredSo_22 : decode cX2_isMeasuredSo 22 = .ok (.lconst 0, 1) := by decide +kernel
theorem dX2_isMeasuredSo_23 : decode cX2_isMeasuredSo 23 = .ok (.lstore_n 3, 1) := by decide +kernel
theorem dX2_isMeasuredSo_24 : decode cX2_isMeasuredSo 24 = .ok (.iconst 0, 1) := by decide +kernel
theorem dX2_isMeasuredSo_25 : decode cX2_isMeasuredSo 25 = .ok (.istore 5, 2) := by decide +kernel
theorem dX2_isMeasuredSo_27 : decode cX2_isMeasuredSo 27 = .ok (.iload 5, 2) := by decide +kernel
theorem dX2_isMeasuredSo_29 : decode cX2_isMeasuredSo 29 = .ok (.sipush 400, 3) := by decide +kernel
theorem dX2_isMeasuredSo_32 : decode cX2_isMeasuredSo 32 = .ok (.if_icmp .ge 90, 3) := by decide +kernel
theorem dX2_isMeasuredSo_35 : decode cX2_isMeasuredSo 35 = .ok (.aload_n 0, 1) := by decide +kernel
theorem dX2_isMeasuredSo_36 : decode cX2_isMeasuredSo 36 = .ok (.getfield 23, 3) := by decide +kernel
theorem dX2_isMeasuredSo_39 : decode cX2_isMeasuredSo 39 = .ok (.aload_n 0, 1) := by decide +kernel
theorem dX2_isMeasuredSo_40 : decode cX2_isMeasuredSo 40 = .ok (.getfield 12, 3) := by decide +kernel
theorem dX2_isMeasuredSo_43 : decode cX2_isMeasuredSo 43 = .ok (.invokevirtual 130, 3) := by decide +kernel
theorem dX2_isMeasuredSo_46 : decode cX2_isMeasuredSo 46 = .ok (.ifCond .ne 5, 3) := by decide +kernel
theorem dX2_isMeasuredSo_49 : decode cX2_isMeasuredSo 49 = .ok (.iconst 0, 1) := by decide +kernel
theorem dX2_isMeasuredSo_50 : decode cX2_isMeasuredSo 50 = .ok (.ireturn, 1) := by decide +kernel
theorem dX2_isMeasuredSo_51 : decode cX2_isMeasuredSo 51 = .ok (.aload_n 0, 1) := by decide +kernel
theorem dX2_isMeasuredSo_52 : decode cX2_isMeasuredSo 52 = .ok (.getfield 23, 3) := by decide +kernel
theorem dX2_isMeasuredSo_55 : decode cX2_isMeasuredSo 55 = .ok (.getfield 237, 3) := by decide +kernel
theorem dX2_isMeasuredSo_58 : decode cX2_isMeasuredSo 58 = .ok (.iload_n 1, 1) := by decide +kernel
theorem dX2_isMeasuredSo_59 : decode cX2_isMeasuredSo 59 = .ok (.if_icmp .ne 57, 3) := by decide +kernel
theorem dX2_isMeasuredSo_62 : decode cX2_isMeasuredSo 62 = .ok (.aload_n 0, 1) := by decide +kernel
theorem dX2_isMeasuredSo_63 : decode cX2_isMeasuredSo 63 = .ok (.getfield 23, 3) := by decide +kernel
theorem dX2_isMeasuredSo_66 : decode cX2_isMeasuredSo 66 = .ok (.getfield 234, 3) := by decide +kernel
theorem dX2_isMeasuredSo_69 : decode cX2_isMeasuredSo 69 = .ok (.ifCond .ne 47, 3) := by decide +kernel
theorem dX2_isMeasuredSo_72 : decode cX2_isMeasuredSo 72 = .ok (.aload_n 0, 1) := by decide +kernel
theorem dX2_isMeasuredSo_73 : decode cX2_isMeasuredSo 73 = .ok (.getfield 23, 3) := by decide +kernel
theorem dX2_isMeasuredSo_76 : decode cX2_isMeasuredSo 76 = .ok (.invokevirtual 230, 3) := by decide +kernel
theorem dX2_isMeasuredSo_79 : decode cX2_isMeasuredSo 79 = .ok (.lstore 6, 2) := by decide +kernel
theorem dX2_isMeasuredSo_81 : decode cX2_isMeasuredSo 81 = .ok (.iload_n 2, 1) := by decide +kernel
theorem dX2_isMeasuredSo_82 : decode cX2_isMeasuredSo 82 = .ok (.ifCond .le 18, 3) := by decide +kernel
theorem dX2_isMeasuredSo_85 : decode cX2_isMeasuredSo 85 = .ok (.aload_n 0, 1) := by decide +kernel
theorem dX2_isMeasuredSo_86 : decode cX2_isMeasuredSo 86 = .ok (.iload_n 2, 1) := by decide +kernel
theorem dX2_isMeasuredSo_87 : decode cX2_isMeasuredSo 87 = .ok (.iconst 1, 1) := by decide +kernel
theorem dX2_isMeasuredSo_88 : decode cX2_isMeasuredSo 88 = .ok (.isub, 1) := by decide +kernel
theorem dX2_isMeasuredSo_89 : decode cX2_isMeasuredSo 89 = .ok (.lload_n 3, 1) := by decide +kernel
theorem dX2_isMeasuredSo_90 : decode cX2_isMeasuredSo 90 = .ok (.lload 6, 2) := by decide +kernel
theorem dX2_isMeasuredSo_92 : decode cX2_isMeasuredSo 92 = .ok (.invokevirtual 266, 3) := by decide +kernel
theorem dX2_isMeasuredSo_95 : decode cX2_isMeasuredSo 95 = .ok (.ifCond .ne 5, 3) := by decide +kernel
theorem dX2_isMeasuredSo_98 : decode cX2_isMeasuredSo 98 = .ok (.iconst 0, 1) := by decide +kernel
theorem dX2_isMeasuredSo_99 : decode cX2_isMeasuredSo 99 = .ok (.ireturn, 1) := by decide +kernel
theorem dX2_isMeasuredSo_100 : decode cX2_isMeasuredSo 100 = .ok (.iload_n 2, 1) := by decide +kernel
theorem dX2_isMeasuredSo_101 : decode cX2_isMeasuredSo 101 = .ok (.aload_n 0, 1) := by decide +kernel
theorem dX2_isMeasuredSo_102 : decode cX2_isMeasuredSo 102 = .ok (.getfield 63, 3) := by decide +kernel
theorem dX2_isMeasuredSo_105 : decode cX2_isMeasuredSo 105 = .ok (.if_icmp .ne 5, 3) := by decide +kernel
theorem dX2_isMeasuredSo_108 : decode cX2_isMeasuredSo 108 = .ok (.iconst 1, 1) := by decide +kernel
theorem dX2_isMeasuredSo_109 : decode cX2_isMeasuredSo 109 = .ok (.ireturn, 1) := by decide +kernel
theorem dX2_isMeasuredSo_110 : decode cX2_isMeasuredSo 110 = .ok (.iinc 2 1, 3) := by decide +kernel
theorem dX2_isMeasuredSo_113 : decode cX2_isMeasuredSo 113 = .ok (.lload 6, 2) := by decide +kernel
theorem dX2_isMeasuredSo_115 : decode cX2_isMeasuredSo 115 = .ok (.lstore_n 3, 1) := by decide +kernel
theorem dX2_isMeasuredSo_116 : decode cX2_isMeasuredSo 116 = .ok (.iinc 5 1, 3) := by decide +kernel
theorem dX2_isMeasuredSo_119 : decode cX2_isMeasuredSo 119 = .ok (.goto (-92), 3) := by decide +kernel
theorem dX2_isMeasuredSo_122 : decode cX2_isMeasuredSo 122 = .ok (.iconst 0, 1) := by decide +kernel
theorem dX2_isMeasuredSo_123 : decode cX2_isMeasuredSo 123 = .ok (.ireturn, 1) := by decide +kernel
set_option maxRecDepth 20000 in
theorem ggX2_isMeasure_X2_betweenNum : GoodIn wsX2_isMeasure wsX2_betweenNum := goodIn_r _ [6, 7, 8, 5, 9, 10, 11, 12, 13] (by decide +kernel) (by decide +kernel)
set_option maxRecDepth 20000 in
theorem gX2_isMeasure_X2_betweenNum : GoodIn wsX2_isMeasure (va_wsS RX2 254 yX2_betweenNum wsX2_betweenNum) := goodIn_app (goodIn_of _ (by decide +kernel)) ggX2_isMeasure_X2_betweenNum
set_option maxRecDepth 20000 in
theorem ggX2_isMeasure_X2_betweenDen : GoodIn wsX2_isMeasure wsX2_betweenDen := goodIn_r _ [16, 10, 11, 5, 12, 13] (by decide +kernel) (by decide +kernel)
set_option maxRecDepth 20000 in
theorem gX2_isMeasure_X2_betweenDen : GoodIn wsX2_isMeasure (va_wsS RX2 257 yX2_betweenDen wsX2_betweenDen) := goodIn_app (goodIn_of _ (by decide +kernel)) ggX2_isMeasure_X2_betweenDen
theorem dX2_isMeasure_0 : decode cX2_isMeasure 0 = .ok (.lload_n 2, 1) := by decide +kernel
theorem dX2_isMeasure_1 : decode cX2_isMeasure 1 = .ok (.lload 4, 2) := by decide +kernel
theorem dX2_isMeasure_3 : decode cX2_isMeasure 3 = .ok (.invokestatic 254, 3) := by decide +kernel
theorem dX2_isMeasure_6 : decode cX2_isMeasure 6 = .ok (.aload_n 0, 1) := by decide +kernel
theorem dX2_isMeasure_7 : decode cX2_isMeasure 7 = .ok (.getfield 60, 3) := by decide +kernel
theorem dX2_isMeasure_10 : decode cX2_isMeasure 10 = .ok (.iload_n 1, 1) := by decide +kernel
theorem dX2_isMeasure_11 : decode cX2_isMeasure 11 = .ok (.iaload, 1) := by decide +kernel
theorem dX2_isMeasure_12 : decode cX2_isMeasure 12 = .ok (.i2l, 1) := by decide +kernel
theorem dX2_isMeasure_13 : decode cX2_isMeasure 13 = .ok (.lmul, 1) := by decide +kernel
theorem dX2_isMeasure_14 : decode cX2_isMeasure 14 = .ok (.aload_n 0, 1) := by decide +kernel
theorem dX2_isMeasure_15 : decode cX2_isMeasure 15 = .ok (.getfield 57, 3) := by decide +kernel
theorem dX2_isMeasure_18 : decode cX2_isMeasure 18 = .ok (.iload_n 1, 1) := by decide +kernel
theorem dX2_isMeasure_19 : decode cX2_isMeasure 19 = .ok (.iaload, 1) := by decide +kernel
theorem dX2_isMeasure_20 : decode cX2_isMeasure 20 = .ok (.i2l, 1) := by decide +kernel
theorem dX2_isMeasure_21 : decode cX2_isMeasure 21 = .ok (.lload_n 2, 1) := by decide +kernel
theorem dX2_isMeasure_22 : decode cX2_isMeasure 22 = .ok (.lload 4, 2) := by decide +kernel
theorem dX2_isMeasure_24 : decode cX2_isMeasure 24 = .ok (.invokestatic 257, 3) := by decide +kernel
theorem dX2_isMeasure_27 : decode cX2_isMeasure 27 = .ok (.lmul, 1) := by decide +kernel
theorem dX2_isMeasure_28 : decode cX2_isMeasure 28 = .ok (.lcmp, 1) := by decide +kernel
theorem dX2_isMeasure_29 : decode cX2_isMeasure 29 = .ok (.ifCond .ne 7, 3) := by decide +kernel
theorem dX2_isMeasure_32 : decode cX2_isMeasure 32 = .ok (.iconst 1, 1) := by decide +kernel
theorem dX2_isMeasure_33 : decode cX2_isMeasure 33 = .ok (.goto 4, 3) := by decide +kernel
theorem dX2_isMeasure_36 : decode cX2_isMeasure 36 = .ok (.iconst 0, 1) := by decide +kernel
theorem dX2_isMeasure_37 : decode cX2_isMeasure 37 = .ok (.ireturn, 1) := by decide +kernel
theorem dX2_commonOf_0 : decode cX2_commonOf 0 = .ok (.lload_n 0, 1) := by decide +kernel
theorem dX2_commonOf_1 : decode cX2_commonOf 1 = .ok (.lconst 0, 1) := by decide +kernel
theorem dX2_commonOf_2 : decode cX2_commonOf 2 = .ok (.lcmp, 1) := by decide +kernel
theorem dX2_commonOf_3 : decode cX2_commonOf 3 = .ok (.ifCond .ge 8, 3) := by decide +kernel
theorem dX2_commonOf_6 : decode cX2_commonOf 6 = .ok (.lload_n 0, 1) := by decide +kernel
theorem dX2_commonOf_7 : decode cX2_commonOf 7 = .ok (.lneg, 1) := by decide +kernel
theorem dX2_commonOf_8 : decode cX2_commonOf 8 = .ok (.goto 4, 3) := by decide +kernel
theorem dX2_commonOf_11 : decode cX2_commonOf 11 = .ok (.lload_n 0, 1) := by decide +kernel
theorem dX2_commonOf_12 : decode cX2_commonOf 12 = .ok (.lstore 4, 2) := by decide +kernel
theorem dX2_commonOf_14 : decode cX2_commonOf 14 = .ok (.lload_n 2, 1) := by decide +kernel
theorem dX2_commonOf_15 : decode cX2_commonOf 15 = .ok (.lconst 0, 1) := by decide +kernel
theorem dX2_commonOf_16 : decode cX2_commonOf 16 = .ok (.lcmp, 1) := by decide +kernel
theorem dX2_commonOf_17 : decode cX2_commonOf 17 = .ok (.ifCond .ge 8, 3) := by decide +kernel
theorem dX2_commonOf_20 : decode cX2_commonOf 20 = .ok (.lload_n 2, 1) := by decide +kernel
theorem dX2_commonOf_21 : decode cX2_commonOf 21 = .ok (.lneg, 1) := by decide +kernel
theorem dX2_commonOf_22 : decode cX2_commonOf 22 = .ok (.goto 4, 3) := by decide +kernel
theorem dX2_commonOf_25 : decode cX2_commonOf 25 = .ok (.lload_n 2, 1) := by decide +kernel
theorem dX2_commonOf_26 : decode cX2_commonOf 26 = .ok (.lstore 6, 2) := by decide +kernel
theorem dX2_commonOf_28 : decode cX2_commonOf 28 = .ok (.iconst 0, 1) := by decide +kernel
theorem dX2_commonOf_29 : decode cX2_commonOf 29 = .ok (.istore 8, 2) := by decide +kernel
theorem dX2_commonOf_31 : decode cX2_commonOf 31 = .ok (.iload 8, 2) := by decide +kernel
theorem dX2_commonOf_33 : decode cX2_commonOf 33 = .ok (.sipush 200, 3) := by decide +kernel
theorem dX2_commonOf_36 : decode cX2_commonOf 36 = .ok (.if_icmp .ge 31, 3) := by decide +kernel
theorem dX2_commonOf_39 : decode cX2_commonOf 39 = .ok (.lload 6, 2) := by decide +kernel
theorem dX2_commonOf_41 : decode cX2_commonOf 41 = .ok (.lconst 0, 1) := by decide +kernel
theorem dX2_commonOf_42 : decode cX2_commonOf 42 = .ok (.lcmp, 1) := by decide +kernel
theorem dX2_commonOf_43 : decode cX2_commonOf 43 = .ok (.ifCond .eq 24, 3) := by decide +kernel
theorem dX2_commonOf_46 : decode cX2_commonOf 46 = .ok (.lload 4, 2) := by decide +kernel
theorem dX2_commonOf_48 : decode cX2_commonOf 48 = .ok (.lload 6, 2) := by decide +kernel
theorem dX2_commonOf_50 : decode cX2_commonOf 50 = .ok (.lrem, 1) := by decide +kernel
theorem dX2_commonOf_51 : decode cX2_commonOf 51 = .ok (.lstore 9, 2) := by decide +kernel
theorem dX2_commonOf_53 : decode cX2_commonOf 53 = .ok (.lload 6, 2) := by decide +kernel
theorem dX2_commonOf_55 : decode cX2_commonOf 55 = .ok (.lstore 4, 2) := by decide +kernel
theorem dX2_commonOf_57 : decode cX2_commonOf 57 = .ok (.lload 9, 2) := by decide +kernel
theorem dX2_commonOf_59 : decode cX2_commonOf 59 = .ok (.lstore 6, 2) := by decide +kernel
theorem dX2_commonOf_61 : decode cX2_commonOf 61 = .ok (.iinc 8 1, 3) := by decide +kernel
theorem dX2_commonOf_64 : decode cX2_commonOf 64 = .ok (.goto (-33), 3) := by decide +kernel
theorem dX2_commonOf_67 : decode cX2_commonOf 67 = .ok (.lload 4, 2) := by decide +kernel
theorem dX2_commonOf_69 : decode cX2_commonOf 69 = .ok (.lconst 0, 1) := by decide +kernel
theorem dX2_commonOf_70 : decode cX2_commonOf 70 = .ok (.lcmp, 1) := by decide +kernel
theorem dX2_commonOf_71 : decode cX2_commonOf 71 = .ok (.ifCond .le 8, 3) := by decide +kernel
theorem dX2_commonOf_74 : decode cX2_commonOf 74 = .ok (.lload 4, 2) := by decide +kernel
theorem dX2_commonOf_76 : decode cX2_commonOf 76 = .ok (.goto 4, 3) := by decide +kernel
theorem dX2_commonOf_79 : decode cX2_commonOf 79 = .ok (.lconst 1, 1) := by decide +kernel
theorem dX2_commonOf_80 : decode cX2_commonOf 80 = .ok (.lreturn, 1) := by decide +kernel
theorem dX2_packed_0 : decode cX2_packed 0 = .ok (.lload_n 0, 1) := by decide +kernel
theorem dX2_packed_1 : decode cX2_packed 1 = .ok (.bipush 20, 2) := by decide +kernel
theorem dX2_packed_3 : decode cX2_packed 3 = .ok (.lshl, 1) := by decide +kernel
theorem dX2_packed_4 : decode cX2_packed 4 = .ok (.lload_n 2, 1) := by decide +kernel
theorem dX2_packed_5 : decode cX2_packed 5 = .ok (.ladd, 1) := by decide +kernel
theorem dX2_packed_6 : decode cX2_packed 6 = .ok (.lreturn, 1) := by decide +kernel
theorem dX2_turnedIn_0 : decode cX2_turnedIn 0 = .ok (.lload_n 0, 1) := by decide +kernel
theorem dX2_turnedIn_1 : decode cX2_turnedIn 1 = .ok (.iconst 1, 1) := by decide +kernel
theorem dX2_turnedIn_2 : decode cX2_turnedIn 2 = .ok (.lshr, 1) := by decide +kernel
theorem dX2_turnedIn_3 : decode cX2_turnedIn 3 = .ok (.l2i, 1) := by decide +kernel
theorem dX2_turnedIn_4 : decode cX2_turnedIn 4 = .ok (.iconst 3, 1) := by decide +kernel
theorem dX2_turnedIn_5 : decode cX2_turnedIn 5 = .ok (.iand, 1) := by decide +kernel
theorem dX2_turnedIn_6 : decode cX2_turnedIn 6 = .ok (.ireturn, 1) := by decide +kernel
theorem dX2_sideIn_0 : decode cX2_sideIn 0 = .ok (.lload_n 0, 1) := by decide +kernel
theorem dX2_sideIn_1 : decode cX2_sideIn 1 = .ok (.l2i, 1) := by decide +kernel
theorem dX2_sideIn_2 : decode cX2_sideIn 2 = .ok (.iconst 1, 1) := by decide +kernel
theorem dX2_sideIn_3 : decode cX2_sideIn 3 = .ok (.iand, 1) := by decide +kernel
theorem dX2_sideIn_4 : decode cX2_sideIn 4 = .ok (.ireturn, 1) := by decide +kernel
theorem dX2_timeNumIn_0 : decode cX2_timeNumIn 0 = .ok (.lload_n 0, 1) := by decide +kernel
theorem dX2_timeNumIn_1 : decode cX2_timeNumIn 1 = .ok (.bipush 23, 2) := by decide +kernel
theorem dX2_timeNumIn_3 : decode cX2_timeNumIn 3 = .ok (.lshr, 1) := by decide +kernel
theorem dX2_timeNumIn_4 : decode cX2_timeNumIn 4 = .ok (.lreturn, 1) := by decide +kernel
theorem dX2_timeDenIn_0 : decode cX2_timeDenIn 0 = .ok (.lload_n 0, 1) := by decide +kernel
theorem dX2_timeDenIn_1 : decode cX2_timeDenIn 1 = .ok (.iconst 3, 1) := by decide +kernel
theorem dX2_timeDenIn_2 : decode cX2_timeDenIn 2 = .ok (.lshr, 1) := by decide +kernel
theorem dX2_timeDenIn_3 : decode cX2_timeDenIn 3 = .ok (.ldc2_w 270, 3) := by decide +kernel
theorem dX2_timeDenIn_6 : decode cX2_timeDenIn 6 = .ok (.land, 1) := by decide +kernel
theorem dX2_timeDenIn_7 : decode cX2_timeDenIn 7 = .ok (.lreturn, 1) := by decide +kernel
set_option maxRecDepth 20000 in
theorem ggX2_betweenNum_X2_timeNumIn : GoodIn wsX2_betweenNum wsX2_timeNumIn := goodIn_r _ [4] (by decide +kernel) (by decide +kernel)
set_option maxRecDepth 20000 in
theorem gX2_betweenNum_X2_timeNumIn : GoodIn wsX2_betweenNum (va_wsS RX2 184 yX2_timeNumIn wsX2_timeNumIn) := goodIn_app (goodIn_of _ (by decide +kernel)) ggX2_betweenNum_X2_timeNumIn
set_option maxRecDepth 20000 in
theorem ggX2_betweenNum_X2_timeDenIn : GoodIn wsX2_betweenNum wsX2_timeDenIn := goodIn_r _ [7, 8] (by decide +kernel) (by decide +kernel)
set_option maxRecDepth 20000 in
theorem gX2_betweenNum_X2_timeDenIn : GoodIn wsX2_betweenNum (va_wsS RX2 188 yX2_timeDenIn wsX2_timeDenIn) := goodIn_app (goodIn_of _ (by decide +kernel)) ggX2_betweenNum_X2_timeDenIn
theorem dX2_betweenNum_0 : decode cX2_betweenNum 0 = .ok (.lload_n 2, 1) := by decide +kernel
theorem dX2_betweenNum_1 : decode cX2_betweenNum 1 = .ok (.invokestatic 184, 3) := by decide +kernel
theorem dX2_betweenNum_4 : decode cX2_betweenNum 4 = .ok (.lload_n 0, 1) := by decide +kernel
theorem dX2_betweenNum_5 : decode cX2_betweenNum 5 = .ok (.invokestatic 188, 3) := by decide +kernel
theorem dX2_betweenNum_8 : decode cX2_betweenNum 8 = .ok (.lmul, 1) := by decide +kernel
theorem dX2_betweenNum_9 : decode cX2_betweenNum 9 = .ok (.lload_n 0, 1) := by decide +kernel
theorem dX2_betweenNum_10 : decode cX2_betweenNum 10 = .ok (.invokestatic 184, 3) := by decide +kernel
theorem dX2_betweenNum_13 : decode cX2_betweenNum 13 = .ok (.lload_n 2, 1) := by decide +kernel
theorem dX2_betweenNum_14 : decode cX2_betweenNum 14 = .ok (.invokestatic 188, 3) := by decide +kernel
theorem dX2_betweenNum_17 : decode cX2_betweenNum 17 = .ok (.lmul, 1) := by decide +kernel
theorem dX2_betweenNum_18 : decode cX2_betweenNum 18 = .ok (.lsub, 1) := by decide +kernel
theorem dX2_betweenNum_19 : decode cX2_betweenNum 19 = .ok (.lreturn, 1) := by decide +kernel
set_option maxRecDepth 20000 in
theorem ggX2_betweenDen_X2_timeDenIn : GoodIn wsX2_betweenDen wsX2_timeDenIn := goodIn_r _ [4, 5] (by decide +kernel) (by decide +kernel)
set_option maxRecDepth 20000 in
theorem gX2_betweenDen_X2_timeDenIn : GoodIn wsX2_betweenDen (va_wsS RX2 188 yX2_timeDenIn wsX2_timeDenIn) := goodIn_app (goodIn_of _ (by decide +kernel)) ggX2_betweenDen_X2_timeDenIn
theorem dX2_betweenDen_0 : decode cX2_betweenDen 0 = .ok (.lload_n 2, 1) := by decide +kernel
theorem dX2_betweenDen_1 : decode cX2_betweenDen 1 = .ok (.invokestatic 188, 3) := by decide +kernel
theorem dX2_betweenDen_4 : decode cX2_betweenDen 4 = .ok (.lload_n 0, 1) := by decide +kernel
theorem dX2_betweenDen_5 : decode cX2_betweenDen 5 = .ok (.invokestatic 188, 3) := by decide +kernel
theorem dX2_betweenDen_8 : decode cX2_betweenDen 8 = .ok (.lmul, 1) := by decide +kernel
theorem dX2_betweenDen_9 : decode cX2_betweenDen 9 = .ok (.lreturn, 1) := by decide +kernel
set_option maxRecDepth 20000 in
theorem ggX3_init_X3_resetAll : GoodIn wsX3_init wsX3_resetAll := goodIn_r _ [28, 11, 5, 29, 30, 31, 32, 33, 34, 35, 36, 37, 38, 39, 40, 41, 42, 43, 44, 45, 46, 47, 48, 49, 50, 51, 52, 53, 54, 55, 56] (by decide +kernel) (by decide +kernel)
set_option maxRecDepth 20000 in
theorem gX3_init_X3_resetAll : GoodIn wsX3_init (wsV RX3 66 RX3 yX3_resetAll wsX3_resetAll) := goodIn_app (goodIn_of _ (by decide +kernel)) ggX3_init_X3_resetAll
theorem dX3_init_0 : decode cX3_init 0 = .ok (.aload_n 0, 1) := by decide +kernel
theorem dX3_init_1 : decode cX3_init 1 = .ok (.invokespecial 1, 3) := by decide +kernel
theorem dX3_init_4 : decode cX3_init 4 = .ok (.aload_n 0, 1) := by decide +kernel
theorem dX3_init_5 : decode cX3_init 5 = .ok (.iconst 4, 1) := by decide +kernel
theorem dX3_init_6 : decode cX3_init 6 = .ok (.newarray .int, 2) := by decide +kernel
theorem dX3_init_8 : decode cX3_init 8 = .ok (.putfield 9, 3) := by decide +kernel
theorem dX3_init_11 : decode cX3_init 11 = .ok (.aload_n 0, 1) := by decide +kernel
theorem dX3_init_12 : decode cX3_init 12 = .ok (.iconst 4, 1) := by decide +kernel
theorem dX3_init_13 : decode cX3_init 13 = .ok (.newarray .int, 2) := by decide +kernel
theorem dX3_init_15 : decode cX3_init 15 = .ok (.putfield 13, 3) := by decide +kernel
theorem dX3_init_18 : decode cX3_init 18 = .ok (.aload_n 0, 1) := by decide +kernel
theorem dX3_init_19 : decode cX3_init 19 = .ok (.iconst 4, 1) := by decide +kernel
theorem dX3_init_20 : decode cX3_init 20 = .ok (.newarray .int, 2) := by decide +kernel
theorem dX3_init_22 : decode cX3_init 22 = .ok (.putfield 16, 3) := by decide +kernel
theorem dX3_init_25 : decode cX3_init 25 = .ok (.aload_n 0, 1) := by decide +kernel
theorem dX3_init_26 : decode cX3_init 26 = .ok (.iconst 4, 1) := by decide +kernel
theorem dX3_init_27 : decode cX3_init 27 = .ok (.newarray .int, 2) := by decide +kernel
theorem dX3_init_29 : decode cX3_init 29 = .ok (.putfield 19, 3) := by decide +kernel
theorem dX3_init_32 : decode cX3_init 32 = .ok (.aload_n 0, 1) := by decide +kernel
theorem dX3_init_33 : decode cX3_init 33 = .ok (.bipush 48, 2) := by decide +kernel
theorem dX3_init_35 : decode cX3_init 35 = .ok (.newarray .int, 2) := by decide +kernel
theorem dX3_init_37 : decode cX3_init 37 = .ok (.putfield 22, 3) := by decide +kernel
theorem dX3_init_40 : decode cX3_init 40 = .ok (.aload_n 0, 1) := by decide +kernel
theorem dX3_init_41 : decode cX3_init 41 = .ok (.bipush 31, 2) := by decide +kernel
theorem dX3_init_43 : decode cX3_init 43 = .ok (.newarray .long, 2) := by decide +kernel
theorem dX3_init_45 : decode cX3_init 45 = .ok (.putfield 25, 3) := by decide +kernel
theorem dX3_init_48 : decode cX3_init 48 = .ok (.aload_n 0, 1) := by decide +kernel
theorem dX3_init_49 : decode cX3_init 49 = .ok (.bipush 31, 2) := by decide +kernel
theorem dX3_init_51 : decode cX3_init 51 = .ok (.newarray .long, 2) := by decide +kernel
theorem dX3_init_53 : decode cX3_init 53 = .ok (.putfield 29, 3) := by decide +kernel
theorem dX3_init_56 : decode cX3_init 56 = .ok (.aload_n 0, 1) := by decide +kernel
theorem dX3_init_57 : decode cX3_init 57 = .ok (.bipush 31, 2) := by decide +kernel
theorem dX3_init_59 : decode cX3_init 59 = .ok (.newarray .long, 2) := by decide +kernel
theorem dX3_init_61 : decode cX3_init 61 = .ok (.putfield 32, 3) := by decide +kernel
theorem dX3_init_64 : decode cX3_init 64 = .ok (.aload_n 0, 1) := by decide +kernel
theorem dX3_init_65 : decode cX3_init 65 = .ok (.sipush 500, 3) := by decide +kernel
theorem dX3_init_68 : decode cX3_init 68 = .ok (.newarray .int, 2) := by decide +kernel
theorem dX3_init_70 : decode cX3_init 70 = .ok (.putfield 35, 3) := by decide +kernel
theorem dX3_init_73 : decode cX3_init 73 = .ok (.aload_n 0, 1) := by decide +kernel
theorem dX3_init_74 : decode cX3_init 74 = .ok (.sipush 500, 3) := by decide +kernel
theorem dX3_init_77 : decode cX3_init 77 = .ok (.newarray .int, 2) := by decide +kernel
theorem dX3_init_79 : decode cX3_init 79 = .ok (.putfield 38, 3) := by decide +kernel
theorem dX3_init_82 : decode cX3_init 82 = .ok (.aload_n 0, 1) := by decide +kernel
theorem dX3_init_83 : decode cX3_init 83 = .ok (.sipush 500, 3) := by decide +kernel
theorem dX3_init_86 : decode cX3_init 86 = .ok (.newarray .long, 2) := by decide +kernel
theorem dX3_init_88 : decode cX3_init 88 = .ok (.putfield 41, 3) := by decide +kernel
theorem dX3_init_91 : decode cX3_init 91 = .ok (.aload_n 0, 1) := by decide +kernel
theorem dX3_init_92 : decode cX3_init 92 = .ok (.sipush 500, 3) := by decide +kernel
theorem dX3_init_95 : decode cX3_init 95 = .ok (.newarray .long, 2) := by decide +kernel
theorem dX3_init_97 : decode cX3_init 97 = .ok (.putfield 44, 3) := by decide +kernel
theorem dX3_init_100 : decode cX3_init 100 = .ok (.aload_n 0, 1) := by decide +kernel
theorem dX3_init_101 : decode cX3_init 101 = .ok (.iconst 1, 1) := by decide +kernel
theorem dX3_init_102 : decode cX3_init 102 = .ok (.putfield 47, 3) := by decide +kernel
theorem dX3_init_105 : decode cX3_init 105 = .ok (.aload_n 0, 1) := by decide +kernel
theorem dX3_init_106 : decode cX3_init 106 = .ok (.sipush 9331, 3) := by decide +kernel
theorem dX3_init_109 : decode cX3_init 109 = .ok (.newarray .long, 2) := by decide +kernel
theorem dX3_init_111 : decode cX3_init 111 = .ok (.putfield 51, 3) := by decide +kernel
theorem dX3_init_114 : decode cX3_init 114 = .ok (.aload_n 0, 1) := by decide +kernel
theorem dX3_init_115 : decode cX3_init 115 = .ok (.bipush 8, 2) := by decide +kernel
theorem dX3_init_117 : decode cX3_init 117 = .ok (.newarray .long, 2) := by decide +kernel
theorem dX3_init_119 : decode cX3_init 119 = .ok (.putfield 54, 3) := by decide +kernel
theorem dX3_init_122 : decode cX3_init 122 = .ok (.aload_n 0, 1) := by decide +kernel
theorem dX3_init_123 : decode cX3_init 123 = .ok (.bipush 10, 2) := by decide +kernel
theorem dX3_init_125 : decode cX3_init 125 = .ok (.newarray .int, 2) := by decide +kernel
theorem dX3_init_127 : decode cX3_init 127 = .ok (.putfield 57, 3) := by decide +kernel
theorem dX3_init_130 : decode cX3_init 130 = .ok (.aload_n 0, 1) := by decide +kernel
theorem dX3_init_131 : decode cX3_init 131 = .ok (.bipush 8, 2) := by decide +kernel
theorem dX3_init_133 : decode cX3_init 133 = .ok (.newarray .long, 2) := by decide +kernel
theorem dX3_init_135 : decode cX3_init 135 = .ok (.putfield 60, 3) := by decide +kernel
theorem dX3_init_138 : decode cX3_init 138 = .ok (.aload_n 0, 1) := by decide +kernel
theorem dX3_init_139 : decode cX3_init 139 = .ok (.bipush 8, 2) := by decide +kernel
theorem dX3_init_141 : decode cX3_init 141 = .ok (.newarray .long, 2) := by decide +kernel
theorem dX3_init_143 : decode cX3_init 143 = .ok (.putfield 63, 3) := by decide +kernel
theorem dX3_init_146 : decode cX3_init 146 = .ok (.aload_n 0, 1) := by decide +kernel
theorem dX3_init_147 : decode cX3_init 147 = .ok (.invokevirtual 66, 3) := by decide +kernel
theorem dX3_init_150 : decode cX3_init 150 = .ok (.return_, 1) := by decide +kernel
theorem dX3_thrown_0 : decode cX3_thrown 0 = .ok (.aload_n 0, 1) := by decide +kernel
theorem dX3_thrown_1 : decode cX3_thrown 1 = .ok (.getfield 69, 3) := by decide +kernel
theorem dX3_thrown_4 : decode cX3_thrown 4 = .ok (.ireturn, 1) := by decide +kernel
theorem dX3_in_0 : decode cX3_in 0 = .ok (.iload_n 0, 1) := by decide +kernel
theorem dX3_in_1 : decode cX3_in 1 = .ok (.iload_n 1, 1) := by decide +kernel
theorem dX3_in_2 : decode cX3_in 2 = .ok (.if_icmp .lt 12, 3) := by decide +kernel
theorem dX3_in_5 : decode cX3_in 5 = .ok (.iload_n 0, 1) := by decide +kernel
theorem dX3_in_6 : decode cX3_in 6 = .ok (.iload_n 2, 1) := by decide +kernel
theorem dX3_in_7 : decode cX3_in 7 = .ok (.if_icmp .gt 7, 3) := by decide +kernel
theorem dX3_in_10 : decode cX3_in 10 = .ok (.iconst 1, 1) := by decide +kernel
theorem dX3_in_11 : decode cX3_in 11 = .ok (.goto 4, 3) := by decide +kernel
theorem dX3_in_14 : decode cX3_in 14 = .ok (.iconst 0, 1) := by decide +kernel
theorem dX3_in_15 : decode cX3_in 15 = .ok (.ireturn, 1) := by decide +kernel
set_option maxRecDepth 20000 in
theorem ggX3_isCell_X3_in : GoodIn wsX3_isCell wsX3_in := goodIn_r _ [5] (by decide +kernel) (by decide +kernel)
set_option maxRecDepth 20000 in
theorem gX3_isCell_X3_in : GoodIn wsX3_isCell (va_wsS RX3 76 yX3_in wsX3_in) := goodIn_app (goodIn_of _ (by decide +kernel)) ggX3_isCell_X3_in
theorem dX3_isCell_0 : decode cX3_isCell 0 = .ok (.iload_n 1, 1) := by decide +kernel
theorem dX3_isCell_1 : decode cX3_isCell 1 = .ok (.iconst 0, 1) := by decide +kernel
theorem dX3_isCell_2 : decode cX3_isCell 2 = .ok (.aload_n 0, 1) := by decide +kernel
theorem dX3_isCell_3 : decode cX3_isCell 3 = .ok (.getfield 73, 3) := by decide +kernel
theorem dX3_isCell_6 : decode cX3_isCell 6 = .ok (.iconst 1, 1) := by decide +kernel
theorem dX3_isCell_7 : decode cX3_isCell 7 = .ok (.isub, 1) := by decide +kernel
theorem dX3_isCell_8 : decode cX3_isCell 8 = .ok (.invokestatic 76, 3) := by decide +kernel
theorem dX3_isCell_11 : decode cX3_isCell 11 = .ok (.ireturn, 1) := by decide +kernel
set_option maxRecDepth 20000 in
theorem ggX3_common_X3_common : GoodIn wsX3_common wsX3_common := goodIn_r _ [0, 1, 2, 3] (by decide +kernel) (by decide +kernel)
set_option maxRecDepth 20000 in
theorem gX3_common_X3_common : GoodIn wsX3_common (va_wsS RX3 80 yX3_common wsX3_common) := goodIn_app (goodIn_of _ (by decide +kernel)) ggX3_common_X3_common
theorem dX3_common_0 : decode cX3_common 0 = .ok (.lload_n 2, 1) := by decide +kernel
theorem dX3_common_1 : decode cX3_common 1 = .ok (.lconst 0, 1) := by decide +kernel
theorem dX3_common_2 : decode cX3_common 2 = .ok (.lcmp, 1) := by decide +kernel
theorem dX3_common_3 : decode cX3_common 3 = .ok (.ifCond .ne 7, 3) := by decide +kernel
theorem dX3_common_6 : decode cX3_common 6 = .ok (.lload_n 0, 1) := by decide +kernel
theorem dX3_common_7 : decode cX3_common 7 = .ok (.goto 10, 3) := by decide +kernel
theorem dX3_common_10 : decode cX3_common 10 = .ok (.lload_n 2, 1) := by decide +kernel
theorem dX3_common_11 : decode cX3_common 11 = .ok (.lload_n 0, 1) := by decide +kernel
theorem dX3_common_12 : decode cX3_common 12 = .ok (.lload_n 2, 1) := by decide +kernel
theorem dX3_common_13 : decode cX3_common 13 = .ok (.lrem, 1) := by decide +kernel
theorem dX3_common_14 : decode cX3_common 14 = .ok (.invokestatic 80, 3) := by decide +kernel
theorem dX3_common_17 : decode cX3_common 17 = .ok (.lreturn, 1) := by decide +kernel
set_option maxRecDepth 20000 in
theorem ggX3_make_X3_common : GoodIn wsX3_make wsX3_common := goodIn_r _ [10, 7, 8, 9] (by decide +kernel) (by decide +kernel)
set_option maxRecDepth 20000 in
theorem gX3_make_X3_common : GoodIn wsX3_make (va_wsS RX3 80 yX3_common wsX3_common) := goodIn_app (goodIn_of _ (by decide +kernel)) ggX3_make_X3_common
theorem dX3_make_0 : decode cX3_make 0 = .ok (.lload_n 1, 1) := by decide +kernel
theorem dX3_make_1 : decode cX3_make 1 = .ok (.invokestatic 84, 3) := by decide +kernel
theorem dX3_make_4 : decode cX3_make 4 = .ok (.lload_n 3, 1) := by decide +kernel
theorem dX3_make_5 : decode cX3_make 5 = .ok (.invokestatic 84, 3) := by decide +kernel
theorem dX3_make_8 : decode cX3_make 8 = .ok (.invokestatic 80, 3) := by decide +kernel
theorem dX3_make_11 : decode cX3_make 11 = .ok (.lstore 5, 2) := by decide +kernel
theorem dX3_make_13 : decode cX3_make 13 = .ok (.aload_n 0, 1) := by decide +kernel
theorem dX3_make_14 : decode cX3_make 14 = .ok (.lload_n 3, 1) := by decide +kernel
theorem dX3_make_15 : decode cX3_make 15 = .ok (.lconst 0, 1) := by decide +kernel
theorem dX3_make_16 : decode cX3_make 16 = .ok (.lcmp, 1) := by decide +kernel
theorem dX3_make_17 : decode cX3_make 17 = .ok (.ifCond .ge 11, 3) := by decide +kernel
theorem dX3_make_20 : decode cX3_make 20 = .ok (.lload_n 1, 1) := by decide +kernel
theorem dX3_make_21 : decode cX3_make 21 = .ok (.lneg, 1) := by decide +kernel
theorem dX3_make_22 : decode cX3_make 22 = .ok (.lload 5, 2) := by decide +kernel
theorem dX3_make_24 : decode cX3_make 24 = .ok (.ldiv, 1) := by decide +kernel
theorem dX3_make_25 : decode cX3_make 25 = .ok (.goto 7, 3) := by decide +kernel
theorem dX3_make_28 : decode cX3_make 28 = .ok (.lload_n 1, 1) := by decide +kernel
theorem dX3_make_29 : decode cX3_make 29 = .ok (.lload 5, 2) := by decide +kernel
theorem dX3_make_31 : decode cX3_make 31 = .ok (.ldiv, 1) := by decide +kernel
theorem dX3_make_32 : decode cX3_make 32 = .ok (.putfield 90, 3) := by decide +kernel
theorem dX3_make_35 : decode cX3_make 35 = .ok (.aload_n 0, 1) := by decide +kernel
theorem dX3_make_36 : decode cX3_make 36 = .ok (.lload_n 3, 1) := by decide +kernel
theorem dX3_make_37 : decode cX3_make 37 = .ok (.invokestatic 84, 3) := by decide +kernel
theorem dX3_make_40 : decode cX3_make 40 = .ok (.lload 5, 2) := by decide +kernel
theorem dX3_make_42 : decode cX3_make 42 = .ok (.ldiv, 1) := by decide +kernel
theorem dX3_make_43 : decode cX3_make 43 = .ok (.putfield 94, 3) := by decide +kernel
theorem dX3_make_46 : decode cX3_make 46 = .ok (.return_, 1) := by decide +kernel
theorem dX3_store_0 : decode cX3_store 0 = .ok (.aload_n 0, 1) := by decide +kernel
theorem dX3_store_1 : decode cX3_store 1 = .ok (.getfield 25, 3) := by decide +kernel
theorem dX3_store_4 : decode cX3_store 4 = .ok (.iload_n 1, 1) := by decide +kernel
theorem dX3_store_5 : decode cX3_store 5 = .ok (.aload_n 0, 1) := by decide +kernel
theorem dX3_store_6 : decode cX3_store 6 = .ok (.getfield 90, 3) := by decide +kernel
theorem dX3_store_9 : decode cX3_store 9 = .ok (.lastore, 1) := by decide +kernel
theorem dX3_store_10 : decode cX3_store 10 = .ok (.aload_n 0, 1) := by decide +kernel
theorem dX3_store_11 : decode cX3_store 11 = .ok (.getfield 25, 3) := by decide +kernel
theorem dX3_store_14 : decode cX3_store 14 = .ok (.iload_n 1, 1) := by decide +kernel
theorem dX3_store_15 : decode cX3_store 15 = .ok (.iconst 1, 1) := by decide +kernel
theorem dX3_store_16 : decode cX3_store 16 = .ok (.iadd, 1) := by decide +kernel
theorem dX3_store_17 : decode cX3_store 17 = .ok (.aload_n 0, 1) := by decide +kernel
theorem dX3_store_18 : decode cX3_store 18 = .ok (.getfield 94, 3) := by decide +kernel
theorem dX3_store_21 : decode cX3_store 21 = .ok (.lastore, 1) := by decide +kernel
theorem dX3_store_22 : decode cX3_store 22 = .ok (.return_, 1) := by decide +kernel
theorem dX3_resetAll_0 : decode cX3_resetAll 0 = .ok (.iconst 0, 1) := by decide +kernel
theorem dX3_resetAll_1 : decode cX3_resetAll 1 = .ok (.istore_n 1, 1) := by decide +kernel
theorem dX3_resetAll_2 : decode cX3_resetAll 2 = .ok (.iload_n 1, 1) := by decide +kernel
theorem dX3_resetAll_3 : decode cX3_resetAll 3 = .ok (.bipush 31, 2) := by decide +kernel
theorem dX3_resetAll_5 : decode cX3_resetAll 5 = .ok (.if_icmp .ge 16, 3) := by decide +kernel
theorem dX3_resetAll_8 : decode cX3_resetAll 8 = .ok (.aload_n 0, 1) := by decide +kernel
theorem dX3_resetAll_9 : decode cX3_resetAll 9 = .ok (.getfield 25, 3) := by decide +kernel
theorem dX3_resetAll_12 : decode cX3_resetAll 12 = .ok (.iload_n 1, 1) := by decide +kernel
theorem dX3_resetAll_13 : decode cX3_resetAll 13 = .ok (.lconst 0, 1) := by decide +kernel
theorem dX3_resetAll_14 : decode cX3_resetAll 14 = .ok (.lastore, 1) := by decide +kernel
theorem dX3_resetAll_15 : decode cX3_resetAll 15 = .ok (.iinc 1 1, 3) := by decide +kernel
theorem dX3_resetAll_18 : decode cX3_resetAll 18 = .ok (.goto (-16), 3) := by decide +kernel
theorem dX3_resetAll_21 : decode cX3_resetAll 21 = .ok (.aload_n 0, 1) := by decide +kernel
theorem dX3_resetAll_22 : decode cX3_resetAll 22 = .ok (.getfield 25, 3) := by decide +kernel
theorem dX3_resetAll_25 : decode cX3_resetAll 25 = .ok (.bipush 21, 2) := by decide +kernel
theorem dX3_resetAll_27 : decode cX3_resetAll 27 = .ok (.lconst 1, 1) := by decide +kernel
theorem dX3_resetAll_28 : decode cX3_resetAll 28 = .ok (.lastore, 1) := by decide +kernel
theorem dX3_resetAll_29 : decode cX3_resetAll 29 = .ok (.iconst 0, 1) := by decide +kernel
theorem dX3_resetAll_30 : decode cX3_resetAll 30 = .ok (.istore_n 1, 1) := by decide +kernel
theorem dX3_resetAll_31 : decode cX3_resetAll 31 = .ok (.iload_n 1, 1) := by decide +kernel
theorem dX3_resetAll_32 : decode cX3_resetAll 32 = .ok (.iconst 4, 1) := by decide +kernel
theorem dX3_resetAll_33 : decode cX3_resetAll 33 = .ok (.if_icmp .ge 49, 3) := by decide +kernel
theorem dX3_resetAll_36 : decode cX3_resetAll 36 = .ok (.aload_n 0, 1) := by decide +kernel
theorem dX3_resetAll_37 : decode cX3_resetAll 37 = .ok (.getfield 25, 3) := by decide +kernel
theorem dX3_resetAll_40 : decode cX3_resetAll 40 = .ok (.iconst 0, 1) := by decide +kernel
theorem dX3_resetAll_41 : decode cX3_resetAll 41 = .ok (.iconst 2, 1) := by decide +kernel
theorem dX3_resetAll_42 : decode cX3_resetAll 42 = .ok (.iload_n 1, 1) := by decide +kernel
theorem dX3_resetAll_43 : decode cX3_resetAll 43 = .ok (.imul, 1) := by decide +kernel
theorem dX3_resetAll_44 : decode cX3_resetAll 44 = .ok (.iadd, 1) := by decide +kernel
theorem dX3_resetAll_45 : decode cX3_resetAll 45 = .ok (.aload_n 0, 1) := by decide +kernel
theorem dX3_resetAll_46 : decode cX3_resetAll 46 = .ok (.getfield 9, 3) := by decide +kernel
theorem dX3_resetAll_49 : decode cX3_resetAll 49 = .ok (.iload_n 1, 1) := by decide +kernel
theorem dX3_resetAll_50 : decode cX3_resetAll 50 = .ok (.iaload, 1) := by decide +kernel
theorem dX3_resetAll_51 : decode cX3_resetAll 51 = .ok (.i2l, 1) := by decide +kernel
theorem dX3_resetAll_52 : decode cX3_resetAll 52 = .ok (.lastore, 1) := by decide +kernel
theorem dX3_resetAll_53 : decode cX3_resetAll 53 = .ok (.aload_n 0, 1) := by decide +kernel
theorem dX3_resetAll_54 : decode cX3_resetAll 54 = .ok (.getfield 25, 3) := by decide +kernel
theorem dX3_resetAll_57 : decode cX3_resetAll 57 = .ok (.iconst 0, 1) := by decide +kernel
theorem dX3_resetAll_58 : decode cX3_resetAll 58 = .ok (.iconst 2, 1) := by decide +kernel
theorem dX3_resetAll_59 : decode cX3_resetAll 59 = .ok (.iload_n 1, 1) := by decide +kernel
theorem dX3_resetAll_60 : decode cX3_resetAll 60 = .ok (.imul, 1) := by decide +kernel
theorem dX3_resetAll_61 : decode cX3_resetAll 61 = .ok (.iadd, 1) := by decide +kernel
theorem dX3_resetAll_62 : decode cX3_resetAll 62 = .ok (.iconst 1, 1) := by decide +kernel
theorem dX3_resetAll_63 : decode cX3_resetAll 63 = .ok (.iadd, 1) := by decide +kernel
theorem dX3_resetAll_64 : decode cX3_resetAll 64 = .ok (.lconst 1, 1) := by decide +kernel
theorem dX3_resetAll_65 : decode cX3_resetAll 65 = .ok (.lastore, 1) := by decide +kernel
theorem dX3_resetAll_66 : decode cX3_resetAll 66 = .ok (.aload_n 0, 1) := by decide +kernel
theorem dX3_resetAll_67 : decode cX3_resetAll 67 = .ok (.getfield 25, 3) := by decide +kernel
theorem dX3_resetAll_70 : decode cX3_resetAll 70 = .ok (.bipush 8, 2) := by decide +kernel
theorem dX3_resetAll_72 : decode cX3_resetAll 72 = .ok (.iload_n 1, 1) := by decide +kernel
theorem dX3_resetAll_73 : decode cX3_resetAll 73 = .ok (.iadd, 1) := by decide +kernel
theorem dX3_resetAll_74 : decode cX3_resetAll 74 = .ok (.lconst 1, 1) := by decide +kernel
theorem dX3_resetAll_75 : decode cX3_resetAll 75 = .ok (.lastore, 1) := by decide +kernel
theorem dX3_resetAll_76 : decode cX3_resetAll 76 = .ok (.iinc 1 1, 3) := by decide +kernel
theorem dX3_resetAll_79 : decode cX3_resetAll 79 = .ok (.goto (-48), 3) := by decide +kernel
theorem dX3_resetAll_82 : decode cX3_resetAll 82 = .ok (.return_, 1) := by decide +kernel
set_option maxRecDepth 20000 in
theorem ggX3_cell_X3_in : GoodIn wsX3_cell wsX3_in := goodIn_r _ [10] (by decide +kernel) (by decide +kernel)
set_option maxRecDepth 20000 in
theorem gX3_cell_X3_in : GoodIn wsX3_cell (va_wsS RX3 76 yX3_in wsX3_in) := goodIn_app (goodIn_of _ (by decide +kernel)) ggX3_cell_X3_in
set_option maxRecDepth 20000 in
theorem ggX3_cell_X3_resetAll : GoodIn wsX3_cell wsX3_resetAll := goodIn_r _ [14, 15, 3, 16, 17, 18, 19, 20, 21, 22, 23, 24, 25, 26, 27, 28, 29, 30, 31, 32, 33, 34, 35, 36, 37, 38, 39, 40, 41, 42, 43] (by decide +kernel) (by decide +kernel)
set_option maxRecDepth 20000 in
theorem gX3_cell_X3_resetAll : GoodIn wsX3_cell (wsV RX3 66 RX3 yX3_resetAll wsX3_resetAll) := goodIn_app (goodIn_of _ (by decide +kernel)) ggX3_cell_X3_resetAll
theorem dX3_cell_0 : decode cX3_cell 0 = .ok (.aload_n 0, 1) := by decide +kernel
theorem dX3_cell_1 : decode cX3_cell 1 = .ok (.iconst 0, 1) := by decide +kernel
theorem dX3_cell_2 : decode cX3_cell 2 = .ok (.putfield 69, 3) := by decide +kernel
theorem dX3_cell_5 : decode cX3_cell 5 = .ok (.iload_n 1, 1) := by decide +kernel
theorem dX3_cell_6 : decode cX3_cell 6 = .ok (.bipush (-50), 2) := by decide +kernel
theorem dX3_cell_8 : decode cX3_cell 8 = .ok (.bipush 50, 2) := by decide +kernel
theorem dX3_cell_10 : decode cX3_cell 10 = .ok (.invokestatic 76, 3) := by decide +kernel
theorem dX3_cell_13 : decode cX3_cell 13 = .ok (.ifCond .eq 48, 3) := by decide +kernel
theorem dX3_cell_16 : decode cX3_cell 16 = .ok (.iload_n 2, 1) := by decide +kernel
theorem dX3_cell_17 : decode cX3_cell 17 = .ok (.bipush (-50), 2) := by decide +kernel
theorem dX3_cell_19 : decode cX3_cell 19 = .ok (.bipush 50, 2) := by decide +kernel
theorem dX3_cell_21 : decode cX3_cell 21 = .ok (.invokestatic 76, 3) := by decide +kernel
theorem dX3_cell_24 : decode cX3_cell 24 = .ok (.ifCond .eq 37, 3) := by decide +kernel
theorem dX3_cell_27 : decode cX3_cell 27 = .ok (.iload_n 1, 1) := by decide +kernel
theorem dX3_cell_28 : decode cX3_cell 28 = .ok (.iload_n 2, 1) := by decide +kernel
theorem dX3_cell_29 : decode cX3_cell 29 = .ok (.if_icmp .ge 32, 3) := by decide +kernel
theorem dX3_cell_32 : decode cX3_cell 32 = .ok (.iload_n 3, 1) := by decide +kernel
theorem dX3_cell_33 : decode cX3_cell 33 = .ok (.iconst 1, 1) := by decide +kernel
theorem dX3_cell_34 : decode cX3_cell 34 = .ok (.bipush 60, 2) := by decide +kernel
theorem dX3_cell_36 : decode cX3_cell 36 = .ok (.invokestatic 76, 3) := by decide +kernel
theorem dX3_cell_39 : decode cX3_cell 39 = .ok (.ifCond .eq 22, 3) := by decide +kernel
theorem dX3_cell_42 : decode cX3_cell 42 = .ok (.iload 4, 2) := by decide +kernel
theorem dX3_cell_44 : decode cX3_cell 44 = .ok (.iconst 1, 1) := by decide +kernel
theorem dX3_cell_45 : decode cX3_cell 45 = .ok (.bipush 60, 2) := by decide +kernel
theorem dX3_cell_47 : decode cX3_cell 47 = .ok (.invokestatic 76, 3) := by decide +kernel
theorem dX3_cell_50 : decode cX3_cell 50 = .ok (.ifCond .eq 11, 3) := by decide +kernel
theorem dX3_cell_53 : decode cX3_cell 53 = .ok (.aload_n 0, 1) := by decide +kernel
theorem dX3_cell_54 : decode cX3_cell 54 = .ok (.getfield 73, 3) := by decide +kernel
theorem dX3_cell_57 : decode cX3_cell 57 = .ok (.iconst 4, 1) := by decide +kernel
theorem dX3_cell_58 : decode cX3_cell 58 = .ok (.if_icmp .ne 5, 3) := by decide +kernel
theorem dX3_cell_61 : decode cX3_cell 61 = .ok (.iconst (-1), 1) := by decide +kernel
theorem dX3_cell_62 : decode cX3_cell 62 = .ok (.ireturn, 1) := by decide +kernel
theorem dX3_cell_63 : decode cX3_cell 63 = .ok (.aload_n 0, 1) := by decide +kernel
theorem dX3_cell_64 : decode cX3_cell 64 = .ok (.getfield 9, 3) := by decide +kernel
theorem dX3_cell_67 : decode cX3_cell 67 = .ok (.aload_n 0, 1) := by decide +kernel
theorem dX3_cell_68 : decode cX3_cell 68 = .ok (.getfield 73, 3) := by decide +kernel
theorem dX3_cell_71 : decode cX3_cell 71 = .ok (.iload_n 1, 1) := by decide +kernel
theorem dX3_cell_72 : decode cX3_cell 72 = .ok (.iastore, 1) := by decide +kernel
theorem dX3_cell_73 : decode cX3_cell 73 = .ok (.aload_n 0, 1) := by decide +kernel
theorem dX3_cell_74 : decode cX3_cell 74 = .ok (.getfield 13, 3) := by decide +kernel
theorem dX3_cell_77 : decode cX3_cell 77 = .ok (.aload_n 0, 1) := by decide +kernel
theorem dX3_cell_78 : decode cX3_cell 78 = .ok (.getfield 73, 3) := by decide +kernel
theorem dX3_cell_81 : decode cX3_cell 81 = .ok (.iload_n 2, 1) := by decide +kernel
theorem dX3_cell_82 : decode cX3_cell 82 = .ok (.iastore, 1) := by decide +kernel
theorem dX3_cell_83 : decode cX3_cell 83 = .ok (.aload_n 0, 1) := by decide +kernel
theorem dX3_cell_84 : decode cX3_cell 84 = .ok (.getfield 16, 3) := by decide +kernel
theorem dX3_cell_87 : decode cX3_cell 87 = .ok (.aload_n 0, 1) := by decide +kernel
theorem dX3_cell_88 : decode cX3_cell 88 = .ok (.getfield 73, 3) := by decide +kernel
theorem dX3_cell_91 : decode cX3_cell 91 = .ok (.iload_n 3, 1) := by decide +kernel
theorem dX3_cell_92 : decode cX3_cell 92 = .ok (.iastore, 1) := by decide +kernel
theorem dX3_cell_93 : decode cX3_cell 93 = .ok (.aload_n 0, 1) := by decide +kernel
theorem dX3_cell_94 : decode cX3_cell 94 = .ok (.getfield 19, 3) := by decide +kernel
theorem dX3_cell_97 : decode cX3_cell 97 = .ok (.aload_n 0, 1) := by decide +kernel
theorem dX3_cell_98 : decode cX3_cell 98 = .ok (.getfield 73, 3) := by decide +kernel
theorem dX3_cell_101 : decode cX3_cell 101 = .ok (.iload 4, 2) := by decide +kernel
theorem dX3_cell_103 : decode cX3_cell 103 = .ok (.iastore, 1) := by decide +kernel
theorem dX3_cell_104 : decode cX3_cell 104 = .ok (.aload_n 0, 1) := by decide +kernel
theorem dX3_cell_105 : decode cX3_cell 105 = .ok (.dup, 1) := by decide +kernel
theorem dX3_cell_106 : decode cX3_cell 106 = .ok (.getfield 73, 3) := by decide +kernel
theorem dX3_cell_109 : decode cX3_cell 109 = .ok (.iconst 1, 1) := by decide +kernel
theorem dX3_cell_110 : decode cX3_cell 110 = .ok (.iadd, 1) := by decide +kernel
theorem dX3_cell_111 : decode cX3_cell 111 = .ok (.putfield 73, 3) := by decide +kernel
theorem dX3_cell_114 : decode cX3_cell 114 = .ok (.aload_n 0, 1) := by decide +kernel
theorem dX3_cell_115 : decode cX3_cell 115 = .ok (.invokevirtual 66, 3) := by decide +kernel
theorem dX3_cell_118 : decode cX3_cell 118 = .ok (.aload_n 0, 1) := by decide +kernel
theorem dX3_cell_119 : decode cX3_cell 119 = .ok (.getfield 73, 3) := by decide +kernel
theorem dX3_cell_122 : decode cX3_cell 122 = .ok (.iconst 1, 1) := by decide +kernel
theorem dX3_cell_123 : decode cX3_cell 123 = .ok (.isub, 1) := by decide +kernel
