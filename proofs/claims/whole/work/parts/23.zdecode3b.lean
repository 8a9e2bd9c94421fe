set_option maxRecDepth 20000 in
theorem ggX3_parts_X3_isFraction : GoodIn wsX3_parts wsX3_isFraction := goodIn_r _ [13, 14, 8, 9, 5, 10] (by decide +kernel) (by decide +kernel)
set_option maxRecDepth 20000 in
theorem gX3_parts_X3_isFraction : GoodIn wsX3_parts (va_wsS RX3 180 yX3_isFraction wsX3_isFraction) := goodIn_app (goodIn_of _ (by decide +kernel)) ggX3_parts_X3_isFraction
set_option maxRecDepth 20000 in
theorem ggX3_parts_X3_ways : GoodIn wsX3_parts wsX3_ways := goodIn_r _ [18, 19, 20, 21, 22, 23, 24, 25, 5, 26, 27, 28, 29, 30, 31, 32, 33, 34, 35, 36, 37, 38, 39, 40, 41, 42, 43, 44, 45, 46, 47, 48, 49, 50, 51, 52, 53, 54, 55, 56, 57, 58, 59, 60, 61, 62, 63, 64, 65, 66, 67] (by decide +kernel) (by decide +kernel)
set_option maxRecDepth 20000 in
theorem gX3_parts_X3_ways : GoodIn wsX3_parts (wsV RX3 183 RX3 yX3_ways wsX3_ways) := goodIn_app (goodIn_of _ (by decide +kernel)) ggX3_parts_X3_ways
theorem dX3_parts_0 : decode cX3_parts 0 = .ok (.aload_n 0, 1) := by decide +kernel
theorem dX3_parts_1 : decode cX3_parts 1 = .ok (.iconst 0, 1) := by decide +kernel
theorem dX3_parts_2 : decode cX3_parts 2 = .ok (.putfield 69, 3) := by decide +kernel
theorem dX3_parts_5 : decode cX3_parts 5 = .ok (.aload_n 0, 1) := by decide +kernel
theorem dX3_parts_6 : decode cX3_parts 6 = .ok (.iload_n 1, 1) := by decide +kernel
theorem dX3_parts_7 : decode cX3_parts 7 = .ok (.invokevirtual 97, 3) := by decide +kernel
theorem dX3_parts_10 : decode cX3_parts 10 = .ok (.ifCond .eq 22, 3) := by decide +kernel
theorem dX3_parts_13 : decode cX3_parts 13 = .ok (.iload_n 2, 1) := by decide +kernel
theorem dX3_parts_14 : decode cX3_parts 14 = .ok (.iload_n 3, 1) := by decide +kernel
theorem dX3_parts_15 : decode cX3_parts 15 = .ok (.invokestatic 180, 3) := by decide +kernel
theorem dX3_parts_18 : decode cX3_parts 18 = .ok (.ifCond .eq 14, 3) := by decide +kernel
theorem dX3_parts_21 : decode cX3_parts 21 = .ok (.aload_n 0, 1) := by decide +kernel
theorem dX3_parts_22 : decode cX3_parts 22 = .ok (.iload_n 1, 1) := by decide +kernel
theorem dX3_parts_23 : decode cX3_parts 23 = .ok (.iload_n 2, 1) := by decide +kernel
theorem dX3_parts_24 : decode cX3_parts 24 = .ok (.iload_n 3, 1) := by decide +kernel
theorem dX3_parts_25 : decode cX3_parts 25 = .ok (.iconst (-1), 1) := by decide +kernel
theorem dX3_parts_26 : decode cX3_parts 26 = .ok (.invokevirtual 183, 3) := by decide +kernel
theorem dX3_parts_29 : decode cX3_parts 29 = .ok (.goto 4, 3) := by decide +kernel
theorem dX3_parts_32 : decode cX3_parts 32 = .ok (.iconst (-1), 1) := by decide +kernel
theorem dX3_parts_33 : decode cX3_parts 33 = .ok (.ireturn, 1) := by decide +kernel
set_option maxRecDepth 20000 in
theorem ggX3_part_X3_isCell : GoodIn wsX3_part wsX3_isCell := goodIn_r _ [6, 7, 8, 9, 5, 10, 40, 41, 42, 43, 44, 45, 46, 47, 48, 49, 50, 51, 52, 53, 54, 55, 56, 57, 58, 59, 60, 61, 62, 63, 64, 65, 66, 67] (by decide +kernel) (by decide +kernel)
set_option maxRecDepth 20000 in
theorem gX3_part_X3_isCell : GoodIn wsX3_part (wsV RX3 97 RX3 yX3_isCell wsX3_isCell) := goodIn_app (goodIn_of _ (by decide +kernel)) ggX3_part_X3_isCell
set_option maxRecDepth 20000 in
theorem ggX3_part_X3_isFraction : GoodIn wsX3_part wsX3_isFraction := goodIn_r _ [13, 14, 8, 9, 5, 10] (by decide +kernel) (by decide +kernel)
set_option maxRecDepth 20000 in
theorem gX3_part_X3_isFraction : GoodIn wsX3_part (va_wsS RX3 180 yX3_isFraction wsX3_isFraction) := goodIn_app (goodIn_of _ (by decide +kernel)) ggX3_part_X3_isFraction
set_option maxRecDepth 20000 in
theorem ggX3_part_X3_ways : GoodIn wsX3_part wsX3_ways := goodIn_r _ [18, 19, 20, 21, 22, 23, 24, 25, 5, 26, 27, 28, 29, 30, 31, 32, 33, 34, 35, 36, 37, 38, 39, 40, 41, 42, 43, 44, 45, 46, 47, 48, 49, 50, 51, 52, 53, 54, 55, 56, 57, 58, 59, 60, 61, 62, 63, 64, 65, 66, 67] (by decide +kernel) (by decide +kernel)
set_option maxRecDepth 20000 in
theorem gX3_part_X3_ways : GoodIn wsX3_part (wsV RX3 183 RX3 yX3_ways wsX3_ways) := goodIn_app (goodIn_of _ (by decide +kernel)) ggX3_part_X3_ways
theorem dX3_part_0 : decode cX3_part 0 = .ok (.aload_n 0, 1) := by decide +kernel
theorem dX3_part_1 : decode cX3_part 1 = .ok (.iconst 0, 1) := by decide +kernel
theorem dX3_part_2 : decode cX3_part 2 = .ok (.putfield 69, 3) := by decide +kernel
theorem dX3_part_5 : decode cX3_part 5 = .ok (.aload_n 0, 1) := by decide +kernel
theorem dX3_part_6 : decode cX3_part 6 = .ok (.iload_n 1, 1) := by decide +kernel
theorem dX3_part_7 : decode cX3_part 7 = .ok (.invokevirtual 97, 3) := by decide +kernel
theorem dX3_part_10 : decode cX3_part 10 = .ok (.ifCond .eq 28, 3) := by decide +kernel
theorem dX3_part_13 : decode cX3_part 13 = .ok (.iload_n 2, 1) := by decide +kernel
theorem dX3_part_14 : decode cX3_part 14 = .ok (.iload_n 3, 1) := by decide +kernel
theorem dX3_part_15 : decode cX3_part 15 = .ok (.invokestatic 180, 3) := by decide +kernel
theorem dX3_part_18 : decode cX3_part 18 = .ok (.ifCond .eq 20, 3) := by decide +kernel
theorem dX3_part_21 : decode cX3_part 21 = .ok (.iload 4, 2) := by decide +kernel
theorem dX3_part_23 : decode cX3_part 23 = .ok (.ifCond .lt 15, 3) := by decide +kernel
theorem dX3_part_26 : decode cX3_part 26 = .ok (.aload_n 0, 1) := by decide +kernel
theorem dX3_part_27 : decode cX3_part 27 = .ok (.iload_n 1, 1) := by decide +kernel
theorem dX3_part_28 : decode cX3_part 28 = .ok (.iload_n 2, 1) := by decide +kernel
theorem dX3_part_29 : decode cX3_part 29 = .ok (.iload_n 3, 1) := by decide +kernel
theorem dX3_part_30 : decode cX3_part 30 = .ok (.iload 4, 2) := by decide +kernel
theorem dX3_part_32 : decode cX3_part 32 = .ok (.invokevirtual 183, 3) := by decide +kernel
theorem dX3_part_35 : decode cX3_part 35 = .ok (.goto 4, 3) := by decide +kernel
theorem dX3_part_38 : decode cX3_part 38 = .ok (.iconst (-1), 1) := by decide +kernel
theorem dX3_part_39 : decode cX3_part 39 = .ok (.ireturn, 1) := by decide +kernel
set_option maxRecDepth 20000 in
theorem ggX3_measure_X3_isFraction : GoodIn wsX3_measure wsX3_isFraction := goodIn_r _ [10, 11, 12, 13, 9, 14] (by decide +kernel) (by decide +kernel)
set_option maxRecDepth 20000 in
theorem gX3_measure_X3_isFraction : GoodIn wsX3_measure (va_wsS RX3 180 yX3_isFraction wsX3_isFraction) := goodIn_app (goodIn_of _ (by decide +kernel)) ggX3_measure_X3_isFraction
set_option maxRecDepth 20000 in
theorem ggX3_measure_X3_make : GoodIn wsX3_measure wsX3_make := goodIn_r _ [18, 19, 20, 21, 22, 4, 6, 23, 24, 9, 25, 26, 27, 28, 29, 30, 31, 32, 33, 34, 35, 36, 37, 38, 39, 40, 41, 42, 43, 44, 45, 46, 47, 48, 49, 50, 51, 52, 53] (by decide +kernel) (by decide +kernel)
set_option maxRecDepth 20000 in
theorem gX3_measure_X3_make : GoodIn wsX3_measure (wsV RX3 107 RX3 yX3_make wsX3_make) := goodIn_app (goodIn_of _ (by decide +kernel)) ggX3_measure_X3_make
theorem dX3_measure_0 : decode cX3_measure 0 = .ok (.aload_n 0, 1) := by decide +kernel
theorem dX3_measure_1 : decode cX3_measure 1 = .ok (.iconst 0, 1) := by decide +kernel
theorem dX3_measure_2 : decode cX3_measure 2 = .ok (.putfield 69, 3) := by decide +kernel
theorem dX3_measure_5 : decode cX3_measure 5 = .ok (.iload_n 1, 1) := by decide +kernel
theorem dX3_measure_6 : decode cX3_measure 6 = .ok (.iload_n 2, 1) := by decide +kernel
theorem dX3_measure_7 : decode cX3_measure 7 = .ok (.invokestatic 180, 3) := by decide +kernel
theorem dX3_measure_10 : decode cX3_measure 10 = .ok (.ifCond .eq 12, 3) := by decide +kernel
theorem dX3_measure_13 : decode cX3_measure 13 = .ok (.aload_n 0, 1) := by decide +kernel
theorem dX3_measure_14 : decode cX3_measure 14 = .ok (.getfield 152, 3) := by decide +kernel
theorem dX3_measure_17 : decode cX3_measure 17 = .ok (.bipush 8, 2) := by decide +kernel
theorem dX3_measure_19 : decode cX3_measure 19 = .ok (.if_icmp .ne 5, 3) := by decide +kernel
theorem dX3_measure_22 : decode cX3_measure 22 = .ok (.iconst (-1), 1) := by decide +kernel
theorem dX3_measure_23 : decode cX3_measure 23 = .ok (.ireturn, 1) := by decide +kernel
theorem dX3_measure_24 : decode cX3_measure 24 = .ok (.aload_n 0, 1) := by decide +kernel
theorem dX3_measure_25 : decode cX3_measure 25 = .ok (.iload_n 1, 1) := by decide +kernel
theorem dX3_measure_26 : decode cX3_measure 26 = .ok (.i2l, 1) := by decide +kernel
theorem dX3_measure_27 : decode cX3_measure 27 = .ok (.iload_n 2, 1) := by decide +kernel
theorem dX3_measure_28 : decode cX3_measure 28 = .ok (.i2l, 1) := by decide +kernel
theorem dX3_measure_29 : decode cX3_measure 29 = .ok (.invokevirtual 107, 3) := by decide +kernel
theorem dX3_measure_32 : decode cX3_measure 32 = .ok (.aload_n 0, 1) := by decide +kernel
theorem dX3_measure_33 : decode cX3_measure 33 = .ok (.getfield 60, 3) := by decide +kernel
theorem dX3_measure_36 : decode cX3_measure 36 = .ok (.aload_n 0, 1) := by decide +kernel
theorem dX3_measure_37 : decode cX3_measure 37 = .ok (.getfield 152, 3) := by decide +kernel
theorem dX3_measure_40 : decode cX3_measure 40 = .ok (.aload_n 0, 1) := by decide +kernel
theorem dX3_measure_41 : decode cX3_measure 41 = .ok (.getfield 90, 3) := by decide +kernel
theorem dX3_measure_44 : decode cX3_measure 44 = .ok (.lastore, 1) := by decide +kernel
theorem dX3_measure_45 : decode cX3_measure 45 = .ok (.aload_n 0, 1) := by decide +kernel
theorem dX3_measure_46 : decode cX3_measure 46 = .ok (.getfield 63, 3) := by decide +kernel
theorem dX3_measure_49 : decode cX3_measure 49 = .ok (.aload_n 0, 1) := by decide +kernel
theorem dX3_measure_50 : decode cX3_measure 50 = .ok (.getfield 152, 3) := by decide +kernel
theorem dX3_measure_53 : decode cX3_measure 53 = .ok (.aload_n 0, 1) := by decide +kernel
theorem dX3_measure_54 : decode cX3_measure 54 = .ok (.getfield 94, 3) := by decide +kernel
theorem dX3_measure_57 : decode cX3_measure 57 = .ok (.lastore, 1) := by decide +kernel
theorem dX3_measure_58 : decode cX3_measure 58 = .ok (.aload_n 0, 1) := by decide +kernel
theorem dX3_measure_59 : decode cX3_measure 59 = .ok (.dup, 1) := by decide +kernel
theorem dX3_measure_60 : decode cX3_measure 60 = .ok (.getfield 152, 3) := by decide +kernel
theorem dX3_measure_63 : decode cX3_measure 63 = .ok (.iconst 1, 1) := by decide +kernel
theorem dX3_measure_64 : decode cX3_measure 64 = .ok (.iadd, 1) := by decide +kernel
theorem dX3_measure_65 : decode cX3_measure 65 = .ok (.putfield 152, 3) := by decide +kernel
theorem dX3_measure_68 : decode cX3_measure 68 = .ok (.aload_n 0, 1) := by decide +kernel
theorem dX3_measure_69 : decode cX3_measure 69 = .ok (.getfield 152, 3) := by decide +kernel
theorem dX3_measure_72 : decode cX3_measure 72 = .ok (.ireturn, 1) := by decide +kernel
theorem dX3_forget_0 : decode cX3_forget 0 = .ok (.aload_n 0, 1) := by decide +kernel
theorem dX3_forget_1 : decode cX3_forget 1 = .ok (.iconst 0, 1) := by decide +kernel
theorem dX3_forget_2 : decode cX3_forget 2 = .ok (.putfield 69, 3) := by decide +kernel
theorem dX3_forget_5 : decode cX3_forget 5 = .ok (.aload_n 0, 1) := by decide +kernel
theorem dX3_forget_6 : decode cX3_forget 6 = .ok (.getfield 152, 3) := by decide +kernel
theorem dX3_forget_9 : decode cX3_forget 9 = .ok (.istore_n 1, 1) := by decide +kernel
theorem dX3_forget_10 : decode cX3_forget 10 = .ok (.aload_n 0, 1) := by decide +kernel
theorem dX3_forget_11 : decode cX3_forget 11 = .ok (.iconst 0, 1) := by decide +kernel
theorem dX3_forget_12 : decode cX3_forget 12 = .ok (.putfield 152, 3) := by decide +kernel
theorem dX3_forget_15 : decode cX3_forget 15 = .ok (.iload_n 1, 1) := by decide +kernel
theorem dX3_forget_16 : decode cX3_forget 16 = .ok (.ireturn, 1) := by decide +kernel
set_option maxRecDepth 20000 in
theorem ggX3_isSo_X3_copy : GoodIn wsX3_isSo wsX3_copy := goodIn_r _ [14] (by decide +kernel) (by decide +kernel)
set_option maxRecDepth 20000 in
theorem gX3_isSo_X3_copy : GoodIn wsX3_isSo (va_wsS RX3 117 yX3_copy wsX3_copy) := goodIn_app (goodIn_of _ (by decide +kernel)) ggX3_isSo_X3_copy
set_option maxRecDepth 20000 in
theorem ggX3_isSo_X3_resetAll : GoodIn wsX3_isSo wsX3_resetAll := goodIn_r _ [18, 2, 19, 71, 72, 73, 74, 75, 76, 77, 78, 79, 80, 81, 82, 83, 84, 85, 86, 87, 88, 89, 90, 91, 92, 93, 94, 95, 96, 97, 98] (by decide +kernel) (by decide +kernel)
set_option maxRecDepth 20000 in
theorem gX3_isSo_X3_resetAll : GoodIn wsX3_isSo (wsV RX3 66 RX3 yX3_resetAll wsX3_resetAll) := goodIn_app (goodIn_of _ (by decide +kernel)) ggX3_isSo_X3_resetAll
set_option maxRecDepth 20000 in
theorem ggX3_isSo_X3_step : GoodIn wsX3_isSo wsX3_step := goodIn_r _ [23, 24, 2, 25, 7, 9, 5, 6, 26, 27, 28, 4, 29, 30, 31, 32, 33, 11, 12, 13, 14, 34, 35, 36, 37, 38, 19, 39, 40, 41, 42, 43, 44, 45, 46, 47, 48, 49, 50, 51, 52, 53, 54, 55, 56, 57, 58, 59, 60, 61, 62, 63, 64, 65, 66, 67, 68, 69, 70, 71, 72, 73, 74, 75, 76, 77, 78, 79, 80, 81, 82, 83, 84, 85, 86, 87, 88, 89, 90, 91, 92, 93, 94, 95, 96, 97, 98] (by decide +kernel) (by decide +kernel)
set_option maxRecDepth 20000 in
theorem gX3_isSo_X3_step : GoodIn wsX3_isSo (wsV RX3 143 RX3 yX3_step wsX3_step) := goodIn_app (goodIn_of _ (by decide +kernel)) ggX3_isSo_X3_step
set_option maxRecDepth 20000 in
theorem ggX3_isSo_X3_make : GoodIn wsX3_isSo wsX3_make := goodIn_r _ [46, 47, 48, 49, 50, 7, 9, 51, 52, 13, 53, 71, 72, 73, 74, 75, 76, 77, 78, 79, 80, 81, 82, 83, 84, 85, 86, 87, 88, 89, 90, 91, 92, 93, 94, 95, 96, 97, 98] (by decide +kernel) (by decide +kernel)
set_option maxRecDepth 20000 in
theorem gX3_isSo_X3_make : GoodIn wsX3_isSo (wsV RX3 107 RX3 yX3_make wsX3_make) := goodIn_app (goodIn_of _ (by decide +kernel)) ggX3_isSo_X3_make
theorem dX3_isSo_0 : decode cX3_isSo 0 = .ok (.aload_n 0, 1) := by decide +kernel
theorem dX3_isSo_1 : decode cX3_isSo 1 = .ok (.getfield 152, 3) := by decide +kernel
theorem dX3_isSo_4 : decode cX3_isSo 4 = .ok (.ifCond .ne 5, 3) := by decide +kernel
theorem dX3_isSo_7 : decode cX3_isSo 7 = .ok (.iconst 1, 1) := by decide +kernel
theorem dX3_isSo_8 : decode cX3_isSo 8 = .ok (.ireturn, 1) := by decide +kernel
theorem dX3_isSo_9 : decode cX3_isSo 9 = .ok (.aload_n 0, 1) := by decide +kernel
theorem dX3_isSo_10 : decode cX3_isSo 10 = .ok (.getfield 25, 3) := by decide +kernel
theorem dX3_isSo_13 : decode cX3_isSo 13 = .ok (.aload_n 0, 1) := by decide +kernel
theorem dX3_isSo_14 : decode cX3_isSo 14 = .ok (.getfield 32, 3) := by decide +kernel
theorem dX3_isSo_17 : decode cX3_isSo 17 = .ok (.invokestatic 117, 3) := by decide +kernel
theorem dX3_isSo_20 : decode cX3_isSo 20 = .ok (.aload_n 0, 1) := by decide +kernel
theorem dX3_isSo_21 : decode cX3_isSo 21 = .ok (.iconst 0, 1) := by decide +kernel
theorem dX3_isSo_22 : decode cX3_isSo 22 = .ok (.putfield 47, 3) := by decide +kernel
theorem dX3_isSo_25 : decode cX3_isSo 25 = .ok (.aload_n 0, 1) := by decide +kernel
theorem dX3_isSo_26 : decode cX3_isSo 26 = .ok (.invokevirtual 66, 3) := by decide +kernel
theorem dX3_isSo_29 : decode cX3_isSo 29 = .ok (.iconst 0, 1) := by decide +kernel
theorem dX3_isSo_30 : decode cX3_isSo 30 = .ok (.istore_n 2, 1) := by decide +kernel
theorem dX3_isSo_31 : decode cX3_isSo 31 = .ok (.lconst 0, 1) := by decide +kernel
theorem dX3_isSo_32 : decode cX3_isSo 32 = .ok (.lstore_n 3, 1) := by decide +kernel
theorem dX3_isSo_33 : decode cX3_isSo 33 = .ok (.lconst 1, 1) := by decide +kernel
theorem dX3_isSo_34 : decode cX3_isSo 34 = .ok (.lstore 5, 2) := by decide +kernel
theorem dX3_isSo_36 : decode cX3_isSo 36 = .ok (.iconst 1, 1) := by decide +kernel
theorem dX3_isSo_37 : decode cX3_isSo 37 = .ok (.istore 7, 2) := by decide +kernel
theorem dX3_isSo_39 : decode cX3_isSo 39 = .ok (.iconst 0, 1) := by decide +kernel
theorem dX3_isSo_40 : decode cX3_isSo 40 = .ok (.istore 8, 2) := by decide +kernel
theorem dX3_isSo_42 : decode cX3_isSo 42 = .ok (.iload 8, 2) := by decide +kernel
theorem dX3_isSo_44 : decode cX3_isSo 44 = .ok (.sipush 400, 3) := by decide +kernel
theorem dX3_isSo_47 : decode cX3_isSo 47 = .ok (.if_icmp .ge 148, 3) := by decide +kernel
theorem dX3_isSo_50 : decode cX3_isSo 50 = .ok (.iload 7, 2) := by decide +kernel
theorem dX3_isSo_52 : decode cX3_isSo 52 = .ok (.ifCond .eq 143, 3) := by decide +kernel
theorem dX3_isSo_55 : decode cX3_isSo 55 = .ok (.iload_n 2, 1) := by decide +kernel
theorem dX3_isSo_56 : decode cX3_isSo 56 = .ok (.aload_n 0, 1) := by decide +kernel
theorem dX3_isSo_57 : decode cX3_isSo 57 = .ok (.getfield 152, 3) := by decide +kernel
theorem dX3_isSo_60 : decode cX3_isSo 60 = .ok (.if_icmp .gt 135, 3) := by decide +kernel
theorem dX3_isSo_63 : decode cX3_isSo 63 = .ok (.aload_n 0, 1) := by decide +kernel
theorem dX3_isSo_64 : decode cX3_isSo 64 = .ok (.invokevirtual 143, 3) := by decide +kernel
theorem dX3_isSo_67 : decode cX3_isSo 67 = .ok (.istore 7, 2) := by decide +kernel
theorem dX3_isSo_69 : decode cX3_isSo 69 = .ok (.iload 7, 2) := by decide +kernel
theorem dX3_isSo_71 : decode cX3_isSo 71 = .ok (.ifCond .eq 118, 3) := by decide +kernel
theorem dX3_isSo_74 : decode cX3_isSo 74 = .ok (.aload_n 0, 1) := by decide +kernel
theorem dX3_isSo_75 : decode cX3_isSo 75 = .ok (.getfield 125, 3) := by decide +kernel
theorem dX3_isSo_78 : decode cX3_isSo 78 = .ok (.iload_n 1, 1) := by decide +kernel
theorem dX3_isSo_79 : decode cX3_isSo 79 = .ok (.if_icmp .ne 110, 3) := by decide +kernel
theorem dX3_isSo_82 : decode cX3_isSo 82 = .ok (.aload_n 0, 1) := by decide +kernel
theorem dX3_isSo_83 : decode cX3_isSo 83 = .ok (.getfield 128, 3) := by decide +kernel
theorem dX3_isSo_86 : decode cX3_isSo 86 = .ok (.ifCond .eq 6, 3) := by decide +kernel
theorem dX3_isSo_89 : decode cX3_isSo 89 = .ok (.goto 100, 3) := by decide +kernel
theorem dX3_isSo_92 : decode cX3_isSo 92 = .ok (.iload_n 2, 1) := by decide +kernel
theorem dX3_isSo_93 : decode cX3_isSo 93 = .ok (.ifCond .le 76, 3) := by decide +kernel
theorem dX3_isSo_96 : decode cX3_isSo 96 = .ok (.aload_n 0, 1) := by decide +kernel
theorem dX3_isSo_97 : decode cX3_isSo 97 = .ok (.aload_n 0, 1) := by decide +kernel
theorem dX3_isSo_98 : decode cX3_isSo 98 = .ok (.getfield 25, 3) := by decide +kernel
theorem dX3_isSo_101 : decode cX3_isSo 101 = .ok (.bipush 20, 2) := by decide +kernel
theorem dX3_isSo_103 : decode cX3_isSo 103 = .ok (.laload, 1) := by decide +kernel
theorem dX3_isSo_104 : decode cX3_isSo 104 = .ok (.lload 5, 2) := by decide +kernel
theorem dX3_isSo_106 : decode cX3_isSo 106 = .ok (.lmul, 1) := by decide +kernel
theorem dX3_isSo_107 : decode cX3_isSo 107 = .ok (.lload_n 3, 1) := by decide +kernel
theorem dX3_isSo_108 : decode cX3_isSo 108 = .ok (.aload_n 0, 1) := by decide +kernel
theorem dX3_isSo_109 : decode cX3_isSo 109 = .ok (.getfield 25, 3) := by decide +kernel
theorem dX3_isSo_112 : decode cX3_isSo 112 = .ok (.bipush 21, 2) := by decide +kernel
theorem dX3_isSo_114 : decode cX3_isSo 114 = .ok (.laload, 1) := by decide +kernel
theorem dX3_isSo_115 : decode cX3_isSo 115 = .ok (.lmul, 1) := by decide +kernel
theorem dX3_isSo_116 : decode cX3_isSo 116 = .ok (.lsub, 1) := by decide +kernel
theorem dX3_isSo_117 : decode cX3_isSo 117 = .ok (.aload_n 0, 1) := by decide +kernel
theorem dX3_isSo_118 : decode cX3_isSo 118 = .ok (.getfield 25, 3) := by decide +kernel
theorem dX3_isSo_121 : decode cX3_isSo 121 = .ok (.bipush 21, 2) := by decide +kernel
theorem dX3_isSo_123 : decode cX3_isSo 123 = .ok (.laload, 1) := by decide +kernel
theorem dX3_isSo_124 : decode cX3_isSo 124 = .ok (.lload 5, 2) := by decide +kernel
theorem dX3_isSo_126 : decode cX3_isSo 126 = .ok (.lmul, 1) := by decide +kernel
theorem dX3_isSo_127 : decode cX3_isSo 127 = .ok (.invokevirtual 107, 3) := by decide +kernel
theorem dX3_isSo_130 : decode cX3_isSo 130 = .ok (.aload_n 0, 1) := by decide +kernel
theorem dX3_isSo_131 : decode cX3_isSo 131 = .ok (.getfield 90, 3) := by decide +kernel
theorem dX3_isSo_134 : decode cX3_isSo 134 = .ok (.aload_n 0, 1) := by decide +kernel
theorem dX3_isSo_135 : decode cX3_isSo 135 = .ok (.getfield 60, 3) := by decide +kernel
theorem dX3_isSo_138 : decode cX3_isSo 138 = .ok (.iload_n 2, 1) := by decide +kernel
theorem dX3_isSo_139 : decode cX3_isSo 139 = .ok (.iconst 1, 1) := by decide +kernel
theorem dX3_isSo_140 : decode cX3_isSo 140 = .ok (.isub, 1) := by decide +kernel
theorem dX3_isSo_141 : decode cX3_isSo 141 = .ok (.laload, 1) := by decide +kernel
theorem dX3_isSo_142 : decode cX3_isSo 142 = .ok (.lcmp, 1) := by decide +kernel
theorem dX3_isSo_143 : decode cX3_isSo 143 = .ok (.ifCond .ne 23, 3) := by decide +kernel
theorem dX3_isSo_146 : decode cX3_isSo 146 = .ok (.aload_n 0, 1) := by decide +kernel
theorem dX3_isSo_147 : decode cX3_isSo 147 = .ok (.getfield 94, 3) := by decide +kernel
theorem dX3_isSo_150 : decode cX3_isSo 150 = .ok (.aload_n 0, 1) := by decide +kernel
theorem dX3_isSo_151 : decode cX3_isSo 151 = .ok (.getfield 63, 3) := by decide +kernel
theorem dX3_isSo_154 : decode cX3_isSo 154 = .ok (.iload_n 2, 1) := by decide +kernel
theorem dX3_isSo_155 : decode cX3_isSo 155 = .ok (.iconst 1, 1) := by decide +kernel
theorem dX3_isSo_156 : decode cX3_isSo 156 = .ok (.isub, 1) := by decide +kernel
theorem dX3_isSo_157 : decode cX3_isSo 157 = .ok (.laload, 1) := by decide +kernel
theorem dX3_isSo_158 : decode cX3_isSo 158 = .ok (.lcmp, 1) := by decide +kernel
theorem dX3_isSo_159 : decode cX3_isSo 159 = .ok (.ifCond .ne 7, 3) := by decide +kernel
theorem dX3_isSo_162 : decode cX3_isSo 162 = .ok (.iconst 1, 1) := by decide +kernel
theorem dX3_isSo_163 : decode cX3_isSo 163 = .ok (.goto 4, 3) := by decide +kernel
theorem dX3_isSo_166 : decode cX3_isSo 166 = .ok (.iconst 0, 1) := by decide +kernel
theorem dX3_isSo_167 : decode cX3_isSo 167 = .ok (.istore 7, 2) := by decide +kernel
theorem dX3_isSo_169 : decode cX3_isSo 169 = .ok (.iinc 2 1, 3) := by decide +kernel
theorem dX3_isSo_172 : decode cX3_isSo 172 = .ok (.aload_n 0, 1) := by decide +kernel
theorem dX3_isSo_173 : decode cX3_isSo 173 = .ok (.getfield 25, 3) := by decide +kernel
theorem dX3_isSo_176 : decode cX3_isSo 176 = .ok (.bipush 20, 2) := by decide +kernel
