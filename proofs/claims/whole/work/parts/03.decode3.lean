theorem dX3_tell_145 : decode cX3_tell 145 = .ok (.getfield 51, 3) := by decide +kernel
theorem dX3_tell_148 : decode cX3_tell 148 = .ok (.iload 4, 2) := by decide +kernel
theorem dX3_tell_150 : decode cX3_tell 150 = .ok (.bipush 22, 2) := by decide +kernel
theorem dX3_tell_152 : decode cX3_tell 152 = .ok (.iadd, 1) := by decide +kernel
theorem dX3_tell_153 : decode cX3_tell 153 = .ok (.iload 5, 2) := by decide +kernel
theorem dX3_tell_155 : decode cX3_tell 155 = .ok (.iadd, 1) := by decide +kernel
theorem dX3_tell_156 : decode cX3_tell 156 = .ok (.laload, 1) := by decide +kernel
theorem dX3_tell_157 : decode cX3_tell 157 = .ok (.aload_n 0, 1) := by decide +kernel
theorem dX3_tell_158 : decode cX3_tell 158 = .ok (.getfield 51, 3) := by decide +kernel
theorem dX3_tell_161 : decode cX3_tell 161 = .ok (.iload_n 3, 1) := by decide +kernel
theorem dX3_tell_162 : decode cX3_tell 162 = .ok (.bipush 22, 2) := by decide +kernel
theorem dX3_tell_164 : decode cX3_tell 164 = .ok (.iadd, 1) := by decide +kernel
theorem dX3_tell_165 : decode cX3_tell 165 = .ok (.iload 5, 2) := by decide +kernel
theorem dX3_tell_167 : decode cX3_tell 167 = .ok (.iadd, 1) := by decide +kernel
theorem dX3_tell_168 : decode cX3_tell 168 = .ok (.laload, 1) := by decide +kernel
theorem dX3_tell_169 : decode cX3_tell 169 = .ok (.lsub, 1) := by decide +kernel
theorem dX3_tell_170 : decode cX3_tell 170 = .ok (.lastore, 1) := by decide +kernel
theorem dX3_tell_171 : decode cX3_tell 171 = .ok (.iinc 5 1, 3) := by decide +kernel
theorem dX3_tell_174 : decode cX3_tell 174 = .ok (.goto (-44), 3) := by decide +kernel
theorem dX3_tell_177 : decode cX3_tell 177 = .ok (.return_, 1) := by decide +kernel
set_option maxRecDepth 20000 in
theorem ggX3_ring_X3_in : GoodIn wsX3_ring wsX3_in := goodIn_r _ [9] (by decide +kernel) (by decide +kernel)
set_option maxRecDepth 20000 in
theorem gX3_ring_X3_in : GoodIn wsX3_ring (va_wsS RX3 76 yX3_in wsX3_in) := goodIn_app (goodIn_of _ (by decide +kernel)) ggX3_ring_X3_in
set_option maxRecDepth 20000 in
theorem ggX3_ring_X3_copy : GoodIn wsX3_ring wsX3_copy := goodIn_r _ [12] (by decide +kernel) (by decide +kernel)
set_option maxRecDepth 20000 in
theorem gX3_ring_X3_copy : GoodIn wsX3_ring (va_wsS RX3 117 yX3_copy wsX3_copy) := goodIn_app (goodIn_of _ (by decide +kernel)) ggX3_ring_X3_copy
set_option maxRecDepth 20000 in
theorem ggX3_ring_X3_seek : GoodIn wsX3_ring wsX3_seek := goodIn_r _ [16, 17, 18, 19, 8, 20, 21, 3, 22, 23, 24, 25, 2, 26, 27, 28, 29, 30, 31, 32, 33, 5, 34, 35, 36, 37, 38, 10, 11, 12, 39, 40, 41, 42, 43, 44, 45, 46, 47, 48, 49, 50, 51, 52, 53, 54, 55, 56, 57, 58, 59, 60, 61, 62, 63, 64, 65, 66, 67, 68, 69, 70, 71, 72, 73, 74, 75, 76, 77, 78, 79, 80, 81, 82, 83, 84, 85, 86, 87, 88, 89, 90, 91, 92, 93, 94, 95, 96, 97, 98, 99, 100, 101, 102, 103, 104, 105, 106, 107, 108, 109, 110, 111, 112, 113, 114] (by decide +kernel) (by decide +kernel)
set_option maxRecDepth 20000 in
theorem gX3_ring_X3_seek : GoodIn wsX3_ring (wsV RX3 173 RX3 yX3_seek wsX3_seek) := goodIn_app (goodIn_of _ (by decide +kernel)) ggX3_ring_X3_seek
theorem dX3_ring_0 : decode cX3_ring 0 = .ok (.aload_n 0, 1) := by decide +kernel
theorem dX3_ring_1 : decode cX3_ring 1 = .ok (.iconst 0, 1) := by decide +kernel
theorem dX3_ring_2 : decode cX3_ring 2 = .ok (.putfield 69, 3) := by decide +kernel
theorem dX3_ring_5 : decode cX3_ring 5 = .ok (.iload_n 1, 1) := by decide +kernel
theorem dX3_ring_6 : decode cX3_ring 6 = .ok (.iconst 1, 1) := by decide +kernel
theorem dX3_ring_7 : decode cX3_ring 7 = .ok (.sipush 300, 3) := by decide +kernel
theorem dX3_ring_10 : decode cX3_ring 10 = .ok (.invokestatic 76, 3) := by decide +kernel
theorem dX3_ring_13 : decode cX3_ring 13 = .ok (.ifCond .eq 10, 3) := by decide +kernel
theorem dX3_ring_16 : decode cX3_ring 16 = .ok (.aload_n 0, 1) := by decide +kernel
theorem dX3_ring_17 : decode cX3_ring 17 = .ok (.getfield 73, 3) := by decide +kernel
theorem dX3_ring_20 : decode cX3_ring 20 = .ok (.ifCond .ne 5, 3) := by decide +kernel
theorem dX3_ring_23 : decode cX3_ring 23 = .ok (.iconst (-1), 1) := by decide +kernel
theorem dX3_ring_24 : decode cX3_ring 24 = .ok (.ireturn, 1) := by decide +kernel
theorem dX3_ring_25 : decode cX3_ring 25 = .ok (.aload_n 0, 1) := by decide +kernel
theorem dX3_ring_26 : decode cX3_ring 26 = .ok (.getfield 25, 3) := by decide +kernel
theorem dX3_ring_29 : decode cX3_ring 29 = .ok (.aload_n 0, 1) := by decide +kernel
theorem dX3_ring_30 : decode cX3_ring 30 = .ok (.getfield 32, 3) := by decide +kernel
theorem dX3_ring_33 : decode cX3_ring 33 = .ok (.invokestatic 117, 3) := by decide +kernel
theorem dX3_ring_36 : decode cX3_ring 36 = .ok (.aload_n 0, 1) := by decide +kernel
theorem dX3_ring_37 : decode cX3_ring 37 = .ok (.iconst 0, 1) := by decide +kernel
theorem dX3_ring_38 : decode cX3_ring 38 = .ok (.putfield 47, 3) := by decide +kernel
theorem dX3_ring_41 : decode cX3_ring 41 = .ok (.aload_n 0, 1) := by decide +kernel
theorem dX3_ring_42 : decode cX3_ring 42 = .ok (.iload_n 1, 1) := by decide +kernel
theorem dX3_ring_43 : decode cX3_ring 43 = .ok (.invokevirtual 173, 3) := by decide +kernel
theorem dX3_ring_46 : decode cX3_ring 46 = .ok (.istore_n 2, 1) := by decide +kernel
theorem dX3_ring_47 : decode cX3_ring 47 = .ok (.aload_n 0, 1) := by decide +kernel
theorem dX3_ring_48 : decode cX3_ring 48 = .ok (.iconst 1, 1) := by decide +kernel
theorem dX3_ring_49 : decode cX3_ring 49 = .ok (.putfield 47, 3) := by decide +kernel
theorem dX3_ring_52 : decode cX3_ring 52 = .ok (.aload_n 0, 1) := by decide +kernel
theorem dX3_ring_53 : decode cX3_ring 53 = .ok (.getfield 32, 3) := by decide +kernel
theorem dX3_ring_56 : decode cX3_ring 56 = .ok (.aload_n 0, 1) := by decide +kernel
theorem dX3_ring_57 : decode cX3_ring 57 = .ok (.getfield 25, 3) := by decide +kernel
theorem dX3_ring_60 : decode cX3_ring 60 = .ok (.invokestatic 117, 3) := by decide +kernel
theorem dX3_ring_63 : decode cX3_ring 63 = .ok (.iload_n 2, 1) := by decide +kernel
theorem dX3_ring_64 : decode cX3_ring 64 = .ok (.ireturn, 1) := by decide +kernel
set_option maxRecDepth 20000 in
theorem ggX3_ringed_X3_in : GoodIn wsX3_ringed wsX3_in := goodIn_r _ [8] (by decide +kernel) (by decide +kernel)
set_option maxRecDepth 20000 in
theorem gX3_ringed_X3_in : GoodIn wsX3_ringed (va_wsS RX3 76 yX3_in wsX3_in) := goodIn_app (goodIn_of _ (by decide +kernel)) ggX3_ringed_X3_in
theorem dX3_ringed_0 : decode cX3_ringed 0 = .ok (.aload_n 0, 1) := by decide +kernel
theorem dX3_ringed_1 : decode cX3_ringed 1 = .ok (.iconst 0, 1) := by decide +kernel
theorem dX3_ringed_2 : decode cX3_ringed 2 = .ok (.putfield 69, 3) := by decide +kernel
theorem dX3_ringed_5 : decode cX3_ringed 5 = .ok (.aload_n 0, 1) := by decide +kernel
theorem dX3_ringed_6 : decode cX3_ringed 6 = .ok (.getfield 170, 3) := by decide +kernel
theorem dX3_ringed_9 : decode cX3_ringed 9 = .ok (.ifCond .eq 22, 3) := by decide +kernel
theorem dX3_ringed_12 : decode cX3_ringed 12 = .ok (.iload_n 1, 1) := by decide +kernel
theorem dX3_ringed_13 : decode cX3_ringed 13 = .ok (.iconst 0, 1) := by decide +kernel
theorem dX3_ringed_14 : decode cX3_ringed 14 = .ok (.bipush 7, 2) := by decide +kernel
theorem dX3_ringed_16 : decode cX3_ringed 16 = .ok (.invokestatic 76, 3) := by decide +kernel
theorem dX3_ringed_19 : decode cX3_ringed 19 = .ok (.ifCond .eq 12, 3) := by decide +kernel
theorem dX3_ringed_22 : decode cX3_ringed 22 = .ok (.aload_n 0, 1) := by decide +kernel
theorem dX3_ringed_23 : decode cX3_ringed 23 = .ok (.getfield 54, 3) := by decide +kernel
theorem dX3_ringed_26 : decode cX3_ringed 26 = .ok (.iload_n 1, 1) := by decide +kernel
theorem dX3_ringed_27 : decode cX3_ringed 27 = .ok (.laload, 1) := by decide +kernel
theorem dX3_ringed_28 : decode cX3_ringed 28 = .ok (.goto 6, 3) := by decide +kernel
theorem dX3_ringed_31 : decode cX3_ringed 31 = .ok (.ldc2_w 177, 3) := by decide +kernel
theorem dX3_ringed_34 : decode cX3_ringed 34 = .ok (.lreturn, 1) := by decide +kernel
set_option maxRecDepth 20000 in
theorem ggX3_drawer_X3_in : GoodIn wsX3_drawer wsX3_in := goodIn_r _ [7] (by decide +kernel) (by decide +kernel)
set_option maxRecDepth 20000 in
theorem gX3_drawer_X3_in : GoodIn wsX3_drawer (va_wsS RX3 76 yX3_in wsX3_in) := goodIn_app (goodIn_of _ (by decide +kernel)) ggX3_drawer_X3_in
theorem dX3_drawer_0 : decode cX3_drawer 0 = .ok (.aload_n 0, 1) := by decide +kernel
theorem dX3_drawer_1 : decode cX3_drawer 1 = .ok (.iconst 0, 1) := by decide +kernel
theorem dX3_drawer_2 : decode cX3_drawer 2 = .ok (.putfield 69, 3) := by decide +kernel
theorem dX3_drawer_5 : decode cX3_drawer 5 = .ok (.iload_n 1, 1) := by decide +kernel
theorem dX3_drawer_6 : decode cX3_drawer 6 = .ok (.iconst 1, 1) := by decide +kernel
theorem dX3_drawer_7 : decode cX3_drawer 7 = .ok (.bipush 60, 2) := by decide +kernel
theorem dX3_drawer_9 : decode cX3_drawer 9 = .ok (.invokestatic 76, 3) := by decide +kernel
theorem dX3_drawer_12 : decode cX3_drawer 12 = .ok (.ifCond .eq 12, 3) := by decide +kernel
theorem dX3_drawer_15 : decode cX3_drawer 15 = .ok (.aload_n 0, 1) := by decide +kernel
theorem dX3_drawer_16 : decode cX3_drawer 16 = .ok (.getfield 149, 3) := by decide +kernel
theorem dX3_drawer_19 : decode cX3_drawer 19 = .ok (.bipush 10, 2) := by decide +kernel
theorem dX3_drawer_21 : decode cX3_drawer 21 = .ok (.if_icmp .ne 5, 3) := by decide +kernel
theorem dX3_drawer_24 : decode cX3_drawer 24 = .ok (.iconst (-1), 1) := by decide +kernel
theorem dX3_drawer_25 : decode cX3_drawer 25 = .ok (.ireturn, 1) := by decide +kernel
theorem dX3_drawer_26 : decode cX3_drawer 26 = .ok (.iconst 0, 1) := by decide +kernel
theorem dX3_drawer_27 : decode cX3_drawer 27 = .ok (.istore_n 2, 1) := by decide +kernel
theorem dX3_drawer_28 : decode cX3_drawer 28 = .ok (.iload_n 2, 1) := by decide +kernel
theorem dX3_drawer_29 : decode cX3_drawer 29 = .ok (.aload_n 0, 1) := by decide +kernel
theorem dX3_drawer_30 : decode cX3_drawer 30 = .ok (.getfield 149, 3) := by decide +kernel
theorem dX3_drawer_33 : decode cX3_drawer 33 = .ok (.if_icmp .ge 21, 3) := by decide +kernel
theorem dX3_drawer_36 : decode cX3_drawer 36 = .ok (.aload_n 0, 1) := by decide +kernel
theorem dX3_drawer_37 : decode cX3_drawer 37 = .ok (.getfield 57, 3) := by decide +kernel
theorem dX3_drawer_40 : decode cX3_drawer 40 = .ok (.iload_n 2, 1) := by decide +kernel
theorem dX3_drawer_41 : decode cX3_drawer 41 = .ok (.iaload, 1) := by decide +kernel
theorem dX3_drawer_42 : decode cX3_drawer 42 = .ok (.iload_n 1, 1) := by decide +kernel
theorem dX3_drawer_43 : decode cX3_drawer 43 = .ok (.if_icmp .ne 5, 3) := by decide +kernel
theorem dX3_drawer_46 : decode cX3_drawer 46 = .ok (.iconst (-1), 1) := by decide +kernel
theorem dX3_drawer_47 : decode cX3_drawer 47 = .ok (.ireturn, 1) := by decide +kernel
theorem dX3_drawer_48 : decode cX3_drawer 48 = .ok (.iinc 2 1, 3) := by decide +kernel
theorem dX3_drawer_51 : decode cX3_drawer 51 = .ok (.goto (-23), 3) := by decide +kernel
theorem dX3_drawer_54 : decode cX3_drawer 54 = .ok (.aload_n 0, 1) := by decide +kernel
theorem dX3_drawer_55 : decode cX3_drawer 55 = .ok (.getfield 57, 3) := by decide +kernel
theorem dX3_drawer_58 : decode cX3_drawer 58 = .ok (.aload_n 0, 1) := by decide +kernel
theorem dX3_drawer_59 : decode cX3_drawer 59 = .ok (.getfield 149, 3) := by decide +kernel
theorem dX3_drawer_62 : decode cX3_drawer 62 = .ok (.iload_n 1, 1) := by decide +kernel
theorem dX3_drawer_63 : decode cX3_drawer 63 = .ok (.iastore, 1) := by decide +kernel
theorem dX3_drawer_64 : decode cX3_drawer 64 = .ok (.aload_n 0, 1) := by decide +kernel
theorem dX3_drawer_65 : decode cX3_drawer 65 = .ok (.dup, 1) := by decide +kernel
theorem dX3_drawer_66 : decode cX3_drawer 66 = .ok (.getfield 149, 3) := by decide +kernel
theorem dX3_drawer_69 : decode cX3_drawer 69 = .ok (.iconst 1, 1) := by decide +kernel
theorem dX3_drawer_70 : decode cX3_drawer 70 = .ok (.iadd, 1) := by decide +kernel
theorem dX3_drawer_71 : decode cX3_drawer 71 = .ok (.putfield 149, 3) := by decide +kernel
theorem dX3_drawer_74 : decode cX3_drawer 74 = .ok (.aload_n 0, 1) := by decide +kernel
theorem dX3_drawer_75 : decode cX3_drawer 75 = .ok (.getfield 149, 3) := by decide +kernel
theorem dX3_drawer_78 : decode cX3_drawer 78 = .ok (.ireturn, 1) := by decide +kernel
set_option maxRecDepth 20000 in
theorem ggX3_isFraction_X3_in : GoodIn wsX3_isFraction wsX3_in := goodIn_r _ [5] (by decide +kernel) (by decide +kernel)
set_option maxRecDepth 20000 in
theorem gX3_isFraction_X3_in : GoodIn wsX3_isFraction (va_wsS RX3 76 yX3_in wsX3_in) := goodIn_app (goodIn_of _ (by decide +kernel)) ggX3_isFraction_X3_in
theorem dX3_isFraction_0 : decode cX3_isFraction 0 = .ok (.iload_n 0, 1) := by decide +kernel
theorem dX3_isFraction_1 : decode cX3_isFraction 1 = .ok (.iconst 1, 1) := by decide +kernel
theorem dX3_isFraction_2 : decode cX3_isFraction 2 = .ok (.ldc 179, 2) := by decide +kernel
theorem dX3_isFraction_4 : decode cX3_isFraction 4 = .ok (.invokestatic 76, 3) := by decide +kernel
theorem dX3_isFraction_7 : decode cX3_isFraction 7 = .ok (.ifCond .eq 17, 3) := by decide +kernel
theorem dX3_isFraction_10 : decode cX3_isFraction 10 = .ok (.iload_n 1, 1) := by decide +kernel
theorem dX3_isFraction_11 : decode cX3_isFraction 11 = .ok (.iconst 1, 1) := by decide +kernel
theorem dX3_isFraction_12 : decode cX3_isFraction 12 = .ok (.ldc 179, 2) := by decide +kernel
theorem dX3_isFraction_14 : decode cX3_isFraction 14 = .ok (.invokestatic 76, 3) := by decide +kernel
theorem dX3_isFraction_17 : decode cX3_isFraction 17 = .ok (.ifCond .eq 7, 3) := by decide +kernel
theorem dX3_isFraction_20 : decode cX3_isFraction 20 = .ok (.iconst 1, 1) := by decide +kernel
theorem dX3_isFraction_21 : decode cX3_isFraction 21 = .ok (.goto 4, 3) := by decide +kernel
theorem dX3_isFraction_24 : decode cX3_isFraction 24 = .ok (.iconst 0, 1) := by decide +kernel
theorem dX3_isFraction_25 : decode cX3_isFraction 25 = .ok (.ireturn, 1) := by decide +kernel
set_option maxRecDepth 20000 in
theorem ggX3_ways_X3_beat : GoodIn wsX3_ways wsX3_beat := goodIn_r _ [9, 10, 11, 12, 13, 14, 8, 15, 16, 17, 18, 19, 3, 4, 20, 21, 22, 23, 24, 25, 26, 27, 28, 29, 30, 31, 32, 33, 34, 35, 36, 37, 38, 39, 40, 41, 42, 43, 44, 45, 46, 47, 48, 49, 50] (by decide +kernel) (by decide +kernel)
set_option maxRecDepth 20000 in
theorem gX3_ways_X3_beat : GoodIn wsX3_ways (wsV RX3 155 RX3 yX3_beat wsX3_beat) := goodIn_app (goodIn_of _ (by decide +kernel)) ggX3_ways_X3_beat
theorem dX3_ways_0 : decode cX3_ways 0 = .ok (.iconst 0, 1) := by decide +kernel
theorem dX3_ways_1 : decode cX3_ways 1 = .ok (.istore 5, 2) := by decide +kernel
theorem dX3_ways_3 : decode cX3_ways 3 = .ok (.iconst 0, 1) := by decide +kernel
theorem dX3_ways_4 : decode cX3_ways 4 = .ok (.istore 6, 2) := by decide +kernel
theorem dX3_ways_6 : decode cX3_ways 6 = .ok (.iload 6, 2) := by decide +kernel
theorem dX3_ways_8 : decode cX3_ways 8 = .ok (.aload_n 0, 1) := by decide +kernel
theorem dX3_ways_9 : decode cX3_ways 9 = .ok (.getfield 149, 3) := by decide +kernel
theorem dX3_ways_12 : decode cX3_ways 12 = .ok (.if_icmp .ge 96, 3) := by decide +kernel
theorem dX3_ways_15 : decode cX3_ways 15 = .ok (.iconst 0, 1) := by decide +kernel
theorem dX3_ways_16 : decode cX3_ways 16 = .ok (.istore 7, 2) := by decide +kernel
theorem dX3_ways_18 : decode cX3_ways 18 = .ok (.iload 7, 2) := by decide +kernel
theorem dX3_ways_20 : decode cX3_ways 20 = .ok (.aload_n 0, 1) := by decide +kernel
theorem dX3_ways_21 : decode cX3_ways 21 = .ok (.getfield 149, 3) := by decide +kernel
theorem dX3_ways_24 : decode cX3_ways 24 = .ok (.if_icmp .ge 78, 3) := by decide +kernel
theorem dX3_ways_27 : decode cX3_ways 27 = .ok (.aload_n 0, 1) := by decide +kernel
theorem dX3_ways_28 : decode cX3_ways 28 = .ok (.iload_n 1, 1) := by decide +kernel
theorem dX3_ways_29 : decode cX3_ways 29 = .ok (.aload_n 0, 1) := by decide +kernel
theorem dX3_ways_30 : decode cX3_ways 30 = .ok (.getfield 57, 3) := by decide +kernel
theorem dX3_ways_33 : decode cX3_ways 33 = .ok (.iload 6, 2) := by decide +kernel
theorem dX3_ways_35 : decode cX3_ways 35 = .ok (.iaload, 1) := by decide +kernel
theorem dX3_ways_36 : decode cX3_ways 36 = .ok (.aload_n 0, 1) := by decide +kernel
theorem dX3_ways_37 : decode cX3_ways 37 = .ok (.getfield 57, 3) := by decide +kernel
theorem dX3_ways_40 : decode cX3_ways 40 = .ok (.iload 7, 2) := by decide +kernel
theorem dX3_ways_42 : decode cX3_ways 42 = .ok (.iaload, 1) := by decide +kernel
theorem dX3_ways_43 : decode cX3_ways 43 = .ok (.invokevirtual 155, 3) := by decide +kernel
theorem dX3_ways_46 : decode cX3_ways 46 = .ok (.aload_n 0, 1) := by decide +kernel
theorem dX3_ways_47 : decode cX3_ways 47 = .ok (.getfield 90, 3) := by decide +kernel
theorem dX3_ways_50 : decode cX3_ways 50 = .ok (.iload_n 3, 1) := by decide +kernel
theorem dX3_ways_51 : decode cX3_ways 51 = .ok (.i2l, 1) := by decide +kernel
theorem dX3_ways_52 : decode cX3_ways 52 = .ok (.lmul, 1) := by decide +kernel
theorem dX3_ways_53 : decode cX3_ways 53 = .ok (.aload_n 0, 1) := by decide +kernel
theorem dX3_ways_54 : decode cX3_ways 54 = .ok (.getfield 94, 3) := by decide +kernel
theorem dX3_ways_57 : decode cX3_ways 57 = .ok (.iload_n 2, 1) := by decide +kernel
theorem dX3_ways_58 : decode cX3_ways 58 = .ok (.i2l, 1) := by decide +kernel
theorem dX3_ways_59 : decode cX3_ways 59 = .ok (.lmul, 1) := by decide +kernel
theorem dX3_ways_60 : decode cX3_ways 60 = .ok (.lcmp, 1) := by decide +kernel
theorem dX3_ways_61 : decode cX3_ways 61 = .ok (.ifCond .eq 6, 3) := by decide +kernel
theorem dX3_ways_64 : decode cX3_ways 64 = .ok (.goto 32, 3) := by decide +kernel
theorem dX3_ways_67 : decode cX3_ways 67 = .ok (.iload 5, 2) := by decide +kernel
theorem dX3_ways_69 : decode cX3_ways 69 = .ok (.iload 4, 2) := by decide +kernel
theorem dX3_ways_71 : decode cX3_ways 71 = .ok (.if_icmp .ne 22, 3) := by decide +kernel
theorem dX3_ways_74 : decode cX3_ways 74 = .ok (.bipush 100, 2) := by decide +kernel
theorem dX3_ways_76 : decode cX3_ways 76 = .ok (.aload_n 0, 1) := by decide +kernel
theorem dX3_ways_77 : decode cX3_ways 77 = .ok (.getfield 57, 3) := by decide +kernel
theorem dX3_ways_80 : decode cX3_ways 80 = .ok (.iload 6, 2) := by decide +kernel
theorem dX3_ways_82 : decode cX3_ways 82 = .ok (.iaload, 1) := by decide +kernel
theorem dX3_ways_83 : decode cX3_ways 83 = .ok (.imul, 1) := by decide +kernel
theorem dX3_ways_84 : decode cX3_ways 84 = .ok (.aload_n 0, 1) := by decide +kernel
theorem dX3_ways_85 : decode cX3_ways 85 = .ok (.getfield 57, 3) := by decide +kernel
theorem dX3_ways_88 : decode cX3_ways 88 = .ok (.iload 7, 2) := by decide +kernel
theorem dX3_ways_90 : decode cX3_ways 90 = .ok (.iaload, 1) := by decide +kernel
theorem dX3_ways_91 : decode cX3_ways 91 = .ok (.iadd, 1) := by decide +kernel
theorem dX3_ways_92 : decode cX3_ways 92 = .ok (.ireturn, 1) := by decide +kernel
theorem dX3_ways_93 : decode cX3_ways 93 = .ok (.iinc 5 1, 3) := by decide +kernel
theorem dX3_ways_96 : decode cX3_ways 96 = .ok (.iinc 7 1, 3) := by decide +kernel
theorem dX3_ways_99 : decode cX3_ways 99 = .ok (.goto (-81), 3) := by decide +kernel
theorem dX3_ways_102 : decode cX3_ways 102 = .ok (.iinc 6 1, 3) := by decide +kernel
theorem dX3_ways_105 : decode cX3_ways 105 = .ok (.goto (-99), 3) := by decide +kernel
theorem dX3_ways_108 : decode cX3_ways 108 = .ok (.iload 4, 2) := by decide +kernel
theorem dX3_ways_110 : decode cX3_ways 110 = .ok (.iconst (-1), 1) := by decide +kernel
theorem dX3_ways_111 : decode cX3_ways 111 = .ok (.if_icmp .ne 8, 3) := by decide +kernel
theorem dX3_ways_114 : decode cX3_ways 114 = .ok (.iload 5, 2) := by decide +kernel
theorem dX3_ways_116 : decode cX3_ways 116 = .ok (.goto 4, 3) := by decide +kernel
theorem dX3_ways_119 : decode cX3_ways 119 = .ok (.iconst (-1), 1) := by decide +kernel
theorem dX3_ways_120 : decode cX3_ways 120 = .ok (.ireturn, 1) := by decide +kernel
set_option maxRecDepth 20000 in
theorem ggX3_parts_X3_isCell : GoodIn wsX3_parts wsX3_isCell := goodIn_r _ [6, 7, 8, 9, 5, 10, 40, 41, 42, 43, 44, 45, 46, 47, 48, 49, 50, 51, 52, 53, 54, 55, 56, 57, 58, 59, 60, 61, 62, 63, 64, 65, 66, 67] (by decide +kernel) (by decide +kernel)
set_option maxRecDepth 20000 in
theorem gX3_parts_X3_isCell : GoodIn wsX3_parts (wsV RX3 97 RX3 yX3_isCell wsX3_isCell) := goodIn_app (goodIn_of _ (by decide +kernel)) ggX3_parts_X3_isCell
set_option maxRecDepth 20000 in
theorem ggX3_parts_X3_isFraction : GoodIn wsX3_parts wsX3_isFraction := goodIn_r _ [13, 14, 8, 9, 5, 10] (by decide +kernel) (by decide +kernel)
set_option maxRecDepth 20000 in
theorem gX3_parts_X3_isFraction : GoodIn wsX3_parts (va_wsS RX3 180 yX3_isFraction wsX3_isFraction) := goodIn_app (goodIn_of _ (by decide +kernel)) ggX3_parts_X3_isFraction
set_option maxRecDepth 20000 in
theorem ggX3_parts_X3_ways : GoodIn wsX3_parts wsX3_ways := goodIn_r _ [18, 19, 20, 21, 22, 23, 24, 25, 5, 26, 27, 28, 29, 30, 31, 32, 33, 34, 35, 36, 37, 38, 39, 40, 41, 42, 43, 44, 45, 46, 47, 48, 49, 50, 51, 52, 53, 54, 55, 56, 57, 58, 59, 60, 61, 62, 63, 64, 65, 66, 67] (by decide +kernel) (by decide +kernel)
set_option maxRecDepth 20000 in
theorem gX3_parts_X3_ways : GoodIn wsX3_parts (wsV RX3 183 RX3 yX3_ways wsX3_ways) := goodIn_app (goodIn_of _ (by decide +kernel)) ggX3_parts_X3_ways
theorem dX3_parts_0 : decode cX3_parts 0 = .ok (.aload_n 0, 1) := by decide +kernel
theorem dX3_parts_1 : decode cX3_parts 1 = .ok (.iconst 0, 1) := by decide +kernel
theorem dX3_parts_2 : decode cX3_parts 2 = .ok (.putfield 69, 3) := by decide +kernel
theorem dX3_parts_5 : decode cX3_parts 5 = .ok (.aload_n 0, 1) := by decide +kernel
theorem dX3_parts_6 : decode cX3_parts 6 = .ok (.iload_n 1, 1) := by decide +kernel
theorem dX3_parts_7 : decode cX3_parts 7 = .ok (.invokevirtual 97, 3) := by decide +kernel
theorem dX3_parts_10 : decode cX3_parts 10 = .ok (.ifCond .eq 22, 3) := by decide +kernel
theorem dX3_parts_13 : decode cX3_parts 13 = .ok (.iload_n 2, 1) := by decide +kernel
theorem dX3_parts_14 : decode cX3_parts 14 = .ok (.iload_n 3, 1) := by decide +kernel
theorem dX3_parts_15 : decode cX3_parts 15 = .ok (.invokestatic 180, 3) := by decide +kernel
theorem dX3_parts_18 : decode cX3_parts 18 = .ok (.ifCond .eq 14, 3) := by decide +kernel
theorem dX3_parts_21 : decode cX3_parts 21 = .ok (.aload_n 0, 1) := by decide +kernel
theorem dX3_parts_22 : decode cX3_parts 22 = .ok (.iload_n 1, 1) := by decide +kernel
theorem dX3_parts_23 : decode cX3_parts 23 = .ok (.iload_n 2, 1) := by decide +kernel
theorem dX3_parts_24 : decode cX3_parts 24 = .ok (.iload_n 3, 1) := by decide +kernel
theorem dX3_parts_25 : decode cX3_parts 25 = .ok (.iconst (-1), 1) := by decide +kernel
theorem dX3_parts_26 : decode cX3_parts 26 = .ok (.invokevirtual 183, 3) := by decide +kernel
theorem dX3_parts_29 : decode cX3_parts 29 = .ok (.goto 4, 3) := by decide +kernel
theorem dX3_parts_32 : decode cX3_parts 32 = .ok (.iconst (-1), 1) := by decide +kernel
theorem dX3_parts_33 : decode cX3_parts 33 = .ok (.ireturn, 1) := by decide +kernel
set_option maxRecDepth 20000 in
theorem ggX3_part_X3_isCell : GoodIn wsX3_part wsX3_isCell := goodIn_r _ [6, 7, 8, 9, 5, 10, 40, 41, 42, 43, 44, 45, 46, 47, 48, 49, 50, 51, 52, 53, 54, 55, 56, 57, 58, 59, 60, 61, 62, 63, 64, 65, 66, 67] (by decide +kernel) (by decide +kernel)
set_option maxRecDepth 20000 in
theorem gX3_part_X3_isCell : GoodIn wsX3_part (wsV RX3 97 RX3 yX3_isCell wsX3_isCell) := goodIn_app (goodIn_of _ (by decide +kernel)) ggX3_part_X3_isCell
set_option maxRecDepth 20000 in
theorem ggX3_part_X3_isFraction : GoodIn wsX3_part wsX3_isFraction := goodIn_r _ [13, 14, 8, 9, 5, 10] (by decide +kernel) (by decide +kernel)
set_option maxRecDepth 20000 in
theorem gX3_part_X3_isFraction : GoodIn wsX3_part (va_wsS RX3 180 yX3_isFraction wsX3_isFraction) := goodIn_app (goodIn_of _ (by decide +kernel)) ggX3_part_X3_isFraction
set_option maxRecDepth 20000 in
theorem ggX3_part_X3_ways : GoodIn wsX3_part wsX3_ways := goodIn_r _ [18, 19, 20, 21, 22, 23, 24, 25, 5, 26, 27, 28, 29, 30, 31, 32, 33, 34, 35, 36, 37, 38, 39, 40, 41, 42, 43, 44, 45, 46, 47, 48, 49, 50, 51, 52, 53, 54, 55, 56, 57, 58, 59, 60, 61, 62, 63, 64, 65, 66, 67] (by decide +kernel) (by decide +kernel)
set_option maxRecDepth 20000 in
theorem gX3_part_X3_ways : GoodIn wsX3_part (wsV RX3 183 RX3 yX3_ways wsX3_ways) := goodIn_app (goodIn_of _ (by decide +kernel)) ggX3_part_X3_ways
theorem dX3_part_0 : decode cX3_part 0 = .ok (.aload_n 0, 1) := by decide +kernel
theorem dX3_part_1 : decode cX3_part 1 = .ok (.iconst 0, 1) := by decide +kernel
theorem dX3_part_2 : decode cX3_part 2 = .ok (.putfield 69, 3) := by decide +kernel
theorem dX3_part_5 : decode cX3_part 5 = .ok (.aload_n 0, 1) := by decide +kernel
theorem dX3_part_6 : decode cX3_part 6 = .ok (.iload_n 1, 1) := by decide +kernel
theorem dX3_part_7 : decode cX3_part 7 = .ok (.invokevirtual 97, 3) := by decide +kernel
theorem dX3_part_10 : decode cX3_part 10 = .ok (.ifCond .eq 28, 3) := by decide +kernel
theorem dX3_part_13 : decode cX3_part 13 = .ok (.iload_n 2, 1) := by decide +kernel
theorem dX3_part_14 : decode cX3_part 14 = .ok (.iload_n 3, 1) := by decide +kernel
theorem dX3_part_15 : decode cX3_part 15 = .ok (.invokestatic 180, 3) := by decide +kernel
theorem dX3_part_18 : decode cX3_part 18 = .ok (.ifCond .eq 20, 3) := by decide +kernel
theorem dX3_part_21 : decode cX3_part 21 = .ok (.iload 4, 2) := by decide +kernel
theorem dX3_part_23 : decode cX3_part 23 = .ok (.ifCond .lt 15, 3) := by decide +kernel
theorem dX3_part_26 : decode cX3_part 26 = .ok (.aload_n 0, 1) := by decide +kernel
theorem dX3_part_27 : decode cX3_part 27 = .ok (.iload_n 1, 1) := by decide +kernel
theorem dX3_part_28 : decode cX3_part 28 = .ok (.iload_n 2, 1) := by decide +kernel
theorem dX3_part_29 : decode cX3_part 29 = .ok (.iload_n 3, 1) := by decide +kernel
theorem dX3_part_30 : decode cX3_part 30 = .ok (.iload 4, 2) := by decide +kernel
theorem dX3_part_32 : decode cX3_part 32 = .ok (.invokevirtual 183, 3) := by decide +kernel
theorem dX3_part_35 : decode cX3_part 35 = .ok (.goto 4, 3) := by decide +kernel
theorem dX3_part_38 : decode cX3_part 38 = .ok (.iconst (-1), 1) := by decide +kernel
theorem dX3_part_39 : decode cX3_part 39 = .ok (.ireturn, 1) := by decide +kernel
set_option maxRecDepth 20000 in
theorem ggX3_measure_X3_isFraction : GoodIn wsX3_measure wsX3_isFraction := goodIn_r _ [10, 11, 12, 13, 9, 14] (by decide +kernel) (by decide +kernel)
set_option maxRecDepth 20000 in
theorem gX3_measure_X3_isFraction : GoodIn wsX3_measure (va_wsS RX3 180 yX3_isFraction wsX3_isFraction) := goodIn_app (goodIn_of _ (by decide +kernel)) ggX3_measure_X3_isFraction
set_option maxRecDepth 20000 in
theorem ggX3_measure_X3_make : GoodIn wsX3_measure wsX3_make := goodIn_r _ [18, 19, 20, 21, 22, 4, 6, 23, 24, 9, 25, 26, 27, 28, 29, 30, 31, 32, 33, 34, 35, 36, 37, 38, 39, 40, 41, 42, 43, 44, 45, 46, 47, 48, 49, 50, 51, 52, 53] (by decide +kernel) (by decide +kernel)
set_option maxRecDepth 20000 in
theorem gX3_measure_X3_make : GoodIn wsX3_measure (wsV RX3 107 RX3 yX3_make wsX3_make) := goodIn_app (goodIn_of _ (by decide +kernel)) ggX3_measure_X3_make
theorem dX3_measure_0 : decode cX3_measure 0 = .ok (.aload_n 0, 1) := by decide +kernel
theorem dX3_measure_1 : decode cX3_measure 1 = .ok (.iconst 0, 1) := by decide +kernel
theorem dX3_measure_2 : decode cX3_measure 2 = .ok (.putfield 69, 3) := by decide +kernel
theorem dX3_measure_5 : decode cX3_measure 5 = .ok (.iload_n 1, 1) := by decide +kernel
theorem dX3_measure_6 : decode cX3_measure 6 = .ok (.iload_n 2, 1) := by decide +kernel
theorem dX3_measure_7 : decode cX3_measure 7 = .ok (.invokestatic 180, 3) := by decide +kernel
theorem dX3_measure_10 : decode cX3_measure 10 = .ok (.ifCond .eq 12, 3) := by decide +kernel
theorem dX3_measure_13 : decode cX3_measure 13 = .ok (.aload_n 0, 1) := by decide +kernel
theorem dX3_measure_14 : decode cX3_measure 14 = .ok (.getfield 152, 3) := by decide +kernel
theorem dX3_measure_17 : decode cX3_measure 17 = .ok (.bipush 8, 2) := by decide +kernel
theorem dX3_measure_19 : decode cX3_measure 19 = .ok (.if_icmp .ne 5, 3) := by decide +kernel
theorem dX3_measure_22 : decode cX3_measure 22 = .ok (.iconst (-1), 1) := by decide +kernel
theorem dX3_measure_23 : decode cX3_measure 23 = .ok (.ireturn, 1) := by decide +kernel
theorem dX3_measure_24 : decode cX3_measure 24 = .ok (.aload_n 0, 1) := by decide +kernel
theorem dX3_measure_25 : decode cX3_measure 25 = .ok (.iload_n 1, 1) := by decide +kernel
theorem dX3_measure_26 : decode cX3_measure 26 = .ok (.i2l, 1) := by decide +kernel
theorem dX3_measure_27 : decode cX3_measure 27 = .ok (.iload_n 2, 1) := by decide +kernel
theorem dX3_measure_28 : decode cX3_measure 28 = .ok (.i2l, 1) := by decide +kernel
theorem dX3_measure_29 : decode cX3_measure 29 = .ok (.invokevirtual 107, 3) := by decide +kernel
theorem dX3_measure_32 : decode cX3_measure 32 = .ok (.aload_n 0, 1) := by decide +kernel
theorem dX3_measure_33 : decode cX3_measure 33 = .ok (.getfield 60, 3) := by decide +kernel
theorem dX3_measure_36 : decode cX3_measure 36 = .ok (.aload_n 0, 1) := by decide +kernel
theorem dX3_measure_37 : decode cX3_measure 37 = .ok (.getfield 152, 3) := by decide +kernel
theorem dX3_measure_40 : decode cX3_measure 40 = .ok (.aload_n 0, 1) := by decide +kernel
theorem dX3_measure_41 : decode cX3_measure 41 = .ok (.getfield 90, 3) := by decide +kernel
theorem dX3_measure_44 : decode cX3_measure 44 = .ok (.lastore, 1) := by decide +kernel
theorem dX3_measure_45 : decode cX3_measure 45 = .ok (.aload_n 0, 1) := by decide +kernel
theorem dX3_measure_46 : decode cX3_measure 46 = .ok (.getfield 63, 3) := by decide +kernel
theorem dX3_measure_49 : decode cX3_measure 49 = .ok (.aload_n 0, 1) := by decide +kernel
theorem dX3_measure_50 : decode cX3_measure 50 = .ok (.getfield 152, 3) := by decide +kernel
theorem dX3_measure_53 : decode cX3_measure 53 = .ok (.aload_n 0, 1) := by decide +kernel
theorem dX3_measure_54 : decode cX3_measure 54 = .ok (.getfield 94, 3) := by decide +kernel
theorem dX3_measure_57 : decode cX3_measure 57 = .ok (.lastore, 1) := by decide +kernel
theorem dX3_measure_58 : decode cX3_measure 58 = .ok (.aload_n 0, 1) := by decide +kernel
theorem dX3_measure_59 : decode cX3_measure 59 = .ok (.dup, 1) := by decide +kernel
theorem dX3_measure_60 : decode cX3_measure 60 = .ok (.getfield 152, 3) := by decide +kernel
theorem dX3_measure_63 : decode cX3_measure 63 = .ok (.iconst 1, 1) := by decide +kernel
theorem dX3_measure_64 : decode cX3_measure 64 = .ok (.iadd, 1) := by decide +kernel
theorem dX3_measure_65 : decode cX3_measure 65 = .ok (.putfield 152, 3) := by decide +kernel
theorem dX3_measure_68 : decode cX3_measure 68 = .ok (.aload_n 0, 1) := by decide +kernel
theorem dX3_measure_69 : decode cX3_measure 69 = .ok (.getfield 152, 3) := by decide +kernel
theorem dX3_measure_72 : decode cX3_measure 72 = .ok (.ireturn, 1) := by decide +kernel
theorem dX3_forget_0 : decode cX3_forget 0 = .ok (.aload_n 0, 1) := by decide +kernel
theorem dX3_forget_1 : decode cX3_forget 1 = .ok (.iconst 0, 1) := by decide +kernel
theorem dX3_forget_2 : decode cX3_forget 2 = .ok (.putfield 69, 3) := by decide +kernel
theorem dX3_forget_5 : decode cX3_forget 5 = .ok (.aload_n 0, 1) := by decide +kernel
theorem dX3_forget_6 : decode cX3_forget 6 = .ok (.getfield 152, 3) := by decide +kernel
theorem dX3_forget_9 : decode cX3_forget 9 = .ok (.istore_n 1, 1) := by decide +kernel
theorem dX3_forget_10 : decode cX3_forget 10 = .ok (.aload_n 0, 1) := by decide +kernel
theorem dX3_forget_11 : decode cX3_forget 11 = .ok (.iconst 0, 1) := by decide +kernel
theorem dX3_forget_12 : decode cX3_forget 12 = .ok (.putfield 152, 3) := by decide +kernel
theorem dX3_forget_15 : decode cX3_forget 15 = .ok (.iload_n 1, 1) := by decide +kernel
theorem dX3_forget_16 : decode cX3_forget 16 = .ok (.ireturn, 1) := by decide +kernel
set_option maxRecDepth 20000 in
theorem ggX3_isSo_X3_copy : GoodIn wsX3_isSo wsX3_copy := goodIn_r _ [14] (by decide +kernel) (by decide +kernel)
set_option maxRecDepth 20000 in
theorem gX3_isSo_X3_copy : GoodIn wsX3_isSo (va_wsS RX3 117 yX3_copy wsX3_copy) := goodIn_app (goodIn_of _ (by decide +kernel)) ggX3_isSo_X3_copy
set_option maxRecDepth 20000 in
theorem ggX3_isSo_X3_resetAll : GoodIn wsX3_isSo wsX3_resetAll := goodIn_r _ [18, 2, 19, 71, 72, 73, 74, 75, 76, 77, 78, 79, 80, 81, 82, 83, 84, 85, 86, 87, 88, 89, 90, 91, 92, 93, 94, 95, 96, 97, 98] (by decide +kernel) (by decide +kernel)
set_option maxRecDepth 20000 in
theorem gX3_isSo_X3_resetAll : GoodIn wsX3_isSo (wsV RX3 66 RX3 yX3_resetAll wsX3_resetAll) := goodIn_app (goodIn_of _ (by decide +kernel)) ggX3_isSo_X3_resetAll
set_option maxRecDepth 20000 in
theorem ggX3_isSo_X3_step : GoodIn wsX3_isSo wsX3_step := goodIn_r _ [23, 24, 2, 25, 7, 9, 5, 6, 26, 27, 28, 4, 29, 30, 31, 32, 33, 11, 12, 13, 14, 34, 35, 36, 37, 38, 19, 39, 40, 41, 42, 43, 44, 45, 46, 47, 48, 49, 50, 51, 52, 53, 54, 55, 56, 57, 58, 59, 60, 61, 62, 63, 64, 65, 66, 67, 68, 69, 70, 71, 72, 73, 74, 75, 76, 77, 78, 79, 80, 81, 82, 83, 84, 85, 86, 87, 88, 89, 90, 91, 92, 93, 94, 95, 96, 97, 98] (by decide +kernel) (by decide +kernel)
set_option maxRecDepth 20000 in
theorem gX3_isSo_X3_step : GoodIn wsX3_isSo (wsV RX3 143 RX3 yX3_step wsX3_step) := goodIn_app (goodIn_of _ (by decide +kernel)) ggX3_isSo_X3_step
set_option maxRecDepth 20000 in
theorem ggX3_isSo_X3_make : GoodIn wsX3_isSo wsX3_make := goodIn_r _ [46, 47, 48, 49, 50, 7, 9, 51, 52, 13, 53, 71, 72, 73, 74, 75, 76, 77, 78, 79, 80, 81, 82, 83, 84, 85, 86, 87, 88, 89, 90, 91, 92, 93, 94, 95, 96, 97, 98] (by decide +kernel) (by decide +kernel)
set_option maxRecDepth 20000 in
theorem gX3_isSo_X3_make : GoodIn wsX3_isSo (wsV RX3 107 RX3 yX3_make wsX3_make) := goodIn_app (goodIn_of _ (by decide +kernel)) ggX3_isSo_X3_make
theorem dX3_isSo_0 : decode cX3_isSo 0 = .ok (.aload_n 0, 1) := by decide +kernel
theorem dX3_isSo_1 : decode cX3_isSo 1 = .ok (.getfield 152, 3) := by decide +kernel
theorem dX3_isSo_4 : decode cX3_isSo 4 = .ok (.ifCond .ne 5, 3) := by decide +kernel
theorem dX3_isSo_7 : decode cX3_isSo 7 = .ok (.iconst 1, 1) := by decide +kernel
theorem dX3_isSo_8 : decode cX3_isSo 8 = .ok (.ireturn, 1) := by decide +kernel
theorem dX3_isSo_9 : decode cX3_isSo 9 = .ok (.aload_n 0, 1) := by decide +kernel
theorem dX3_isSo_10 : decode cX3_isSo 10 = .ok (.getfield 25, 3) := by decide +kernel
theorem dX3_isSo_13 : decode cX3_isSo 13 = .ok (.aload_n 0, 1) := by decide +kernel
theorem dX3_isSo_14 : decode cX3_isSo 14 = .ok (.getfield 32, 3) := by decide +kernel
theorem dX3_isSo_17 : decode cX3_isSo 17 = .ok (.invokestatic 117, 3) := by decide +kernel
theorem dX3_isSo_20 : decode cX3_isSo 20 = .ok (.aload_n 0, 1) := by decide +kernel
theorem dX3_isSo_21 : decode cX3_isSo 21 = .ok (.iconst 0, 1) := by decide +kernel
theorem dX3_isSo_22 : decode cX3_isSo 22 = .ok (.putfield 47, 3) := by decide +kernel
theorem dX3_isSo_25 : decode cX3_isSo 25 = .ok (.aload_n 0, 1) := by decide +kernel
theorem dX3_isSo_26 : decode cX3_isSo 26 = .ok (.invokevirtual 66, 3) := by decide +kernel
theorem dX3_isSo_29 : decode cX3_isSo 29 = .ok (.iconst 0, 1) := by decide +kernel
theorem dX3_isSo_30 : decode cX3_isSo 30 = .ok (.istore_n 2, 1) := by decide +kernel
theorem dX3_isSo_31 : decode cX3_isSo 31 = .ok (.lconst 0, 1) := by decide +kernel
theorem dX3_isSo_32 : decode cX3_isSo 32 = .ok (.lstore_n 3, 1) := by decide +kernel
theorem dX3_isSo_33 : decode cX3_isSo 33 = .ok (.lconst 1, 1) := by decide +kernel
theorem dX3_isSo_34 : decode cX3_isSo 34 = .ok (.lstore 5, 2) := by decide +kernel
theorem dX3_isSo_36 : decode cX3_isSo 36 = .ok (.iconst 1, 1) := by decide +kernel
theorem dX3_isSo_37 : decode cX3_isSo 37 = .ok (.istore 7, 2) := by decide +kernel
theorem dX3_isSo_39 : decode cX3_isSo 39 = .ok (.iconst 0, 1) := by decide +kernel
theorem dX3_isSo_40 : decode cX3_isSo 40 = .ok (.istore 8, 2) := by decide +kernel
theorem dX3_isSo_42 : decode cX3_isSo 42 = .ok (.iload 8, 2) := by decide +kernel
theorem dX3_isSo_44 : decode cX3_isSo 44 = .ok (.sipush 400, 3) := by decide +kernel
theorem dX3_isSo_47 : decode cX3_isSo 47 = .ok (.if_icmp .ge 148, 3) := by decide +kernel
theorem dX3_isSo_50 : decode cX3_isSo 50 = .ok (.iload 7, 2) := by decide +kernel
theorem dX3_isSo_52 : decode cX3_isSo 52 = .ok (.ifCond .eq 143, 3) := by decide +kernel
theorem dX3_isSo_55 : decode cX3_isSo 55 = .ok (.iload_n 2, 1) := by decide +kernel
theorem dX3_isSo_56 : decode cX3_isSo 56 = .ok (.aload_n 0, 1) := by decide +kernel
theorem dX3_isSo_57 : decode cX3_isSo 57 = .ok (.getfield 152, 3) := by decide +kernel
theorem dX3_isSo_60 : decode cX3_isSo 60 = .ok (.if_icmp .gt 135, 3) := by decide +kernel
theorem dX3_isSo_63 : decode cX3_isSo 63 = .ok (.aload_n 0, 1) := by decide +kernel
theorem dX3_isSo_64 : decode cX3_isSo 64 = .ok (.invokevirtual 143, 3) := by decide +kernel
theorem dX3_isSo_67 : decode cX3_isSo 67 = .ok (.istore 7, 2) := by decide +kernel
theorem dX3_isSo_69 : decode cX3_isSo 69 = .ok (.iload 7, 2) := by decide +kernel
theorem dX3_isSo_71 : decode cX3_isSo 71 = .ok (.ifCond .eq 118, 3) := by decide +kernel
theorem dX3_isSo_74 : decode cX3_isSo 74 = .ok (.aload_n 0, 1) := by decide +kernel
theorem dX3_isSo_75 : decode cX3_isSo 75 = .ok (.getfield 125, 3) := by decide +kernel
theorem dX3_isSo_78 : decode cX3_isSo 78 = .ok (.iload_n 1, 1) := by decide +kernel
theorem dX3_isSo_79 : decode cX3_isSo 79 = .ok (.if_icmp .ne 110, 3) := by decide +kernel
theorem dX3_isSo_82 : decode cX3_isSo 82 = .ok (.aload_n 0, 1) := by decide +kernel
theorem dX3_isSo_83 : decode cX3_isSo 83 = .ok (.getfield 128, 3) := by decide +kernel
theorem dX3_isSo_86 : decode cX3_isSo 86 = .ok (.ifCond .eq 6, 3) := by decide +kernel
theorem dX3_isSo_89 : decode cX3_isSo 89 = .ok (.goto 100, 3) := by decide +kernel
theorem dX3_isSo_92 : decode cX3_isSo 92 = .ok (.iload_n 2, 1) := by decide +kernel
theorem dX3_isSo_93 : decode cX3_isSo 93 = .ok (.ifCond .le 76, 3) := by decide +kernel
theorem dX3_isSo_96 : decode cX3_isSo 96 = .ok (.aload_n 0, 1) := by decide +kernel
theorem dX3_isSo_97 : decode cX3_isSo 97 = .ok (.aload_n 0, 1) := by decide +kernel
theorem dX3_isSo_98 : decode cX3_isSo 98 = .ok (.getfield 25, 3) := by decide +kernel
theorem dX3_isSo_101 : decode cX3_isSo 101 = .ok (.bipush 20, 2) := by decide +kernel
theorem dX3_isSo_103 : decode cX3_isSo 103 = .ok (.laload, 1) := by decide +kernel
theorem dX3_isSo_104 : decode cX3_isSo 104 = .ok (.lload 5, 2) := by decide +kernel
theorem dX3_isSo_106 : decode cX3_isSo 106 = .ok (.lmul, 1) := by decide +kernel
theorem dX3_isSo_107 : decode cX3_isSo 107 = .ok (.lload_n 3, 1) := by decide +kernel
theorem dX3_isSo_108 : decode cX3_isSo 108 = .ok (.aload_n 0, 1) := by decide +kernel
theorem dX3_isSo_109 : decode cX3_isSo 109 = .ok (.getfield 25, 3) := by decide +kernel
theorem dX3_isSo_112 : decode cX3_isSo 112 = .ok (.bipush 21, 2) := by decide +kernel
theorem dX3_isSo_114 : decode cX3_isSo 114 = .ok (.laload, 1) := by decide +kernel
theorem dX3_isSo_115 : decode cX3_isSo 115 = .ok (.lmul, 1) := by decide +kernel
theorem dX3_isSo_116 : decode cX3_isSo 116 = .ok (.lsub, 1) := by decide +kernel
theorem dX3_isSo_117 : decode cX3_isSo 117 = .ok (.aload_n 0, 1) := by decide +kernel
theorem dX3_isSo_118 : decode cX3_isSo 118 = .ok (.getfield 25, 3) := by decide +kernel
theorem dX3_isSo_121 : decode cX3_isSo 121 = .ok (.bipush 21, 2) := by decide +kernel
theorem dX3_isSo_123 : decode cX3_isSo 123 = .ok (.laload, 1) := by decide +kernel
theorem dX3_isSo_124 : decode cX3_isSo 124 = .ok (.lload 5, 2) := by decide +kernel
theorem dX3_isSo_126 : decode cX3_isSo 126 = .ok (.lmul, 1) := by decide +kernel
theorem dX3_isSo_127 : decode cX3_isSo 127 = .ok (.invokevirtual 107, 3) := by decide +kernel
theorem dX3_isSo_130 : decode cX3_isSo 130 = .ok (.aload_n 0, 1) := by decide +kernel
theorem dX3_isSo_131 : decode cX3_isSo 131 = .ok (.getfield 90, 3) := by decide +kernel
theorem dX3_isSo_134 : decode cX3_isSo 134 = .ok (.aload_n 0, 1) := by decide +kernel
theorem dX3_isSo_135 : decode cX3_isSo 135 = .ok (.getfield 60, 3) := by decide +kernel
theorem dX3_isSo_138 : decode cX3_isSo 138 = .ok (.iload_n 2, 1) := by decide +kernel
theorem dX3_isSo_139 : decode cX3_isSo 139 = .ok (.iconst 1, 1) := by decide +kernel
theorem dX3_isSo_140 : decode cX3_isSo 140 = .ok (.isub, 1) := by decide +kernel
theorem dX3_isSo_141 : decode cX3_isSo 141 = .ok (.laload, 1) := by decide +kernel
theorem dX3_isSo_142 : decode cX3_isSo 142 = .ok (.lcmp, 1) := by decide +kernel
theorem dX3_isSo_143 : decode cX3_isSo 143 = .ok (.ifCond .ne 23, 3) := by decide +kernel
theorem dX3_isSo_146 : decode cX3_isSo 146 = .ok (.aload_n 0, 1) := by decide +kernel
theorem dX3_isSo_147 : decode cX3_isSo 147 = .ok (.getfield 94, 3) := by decide +kernel
theorem dX3_isSo_150 : decode cX3_isSo 150 = .ok (.aload_n 0, 1) := by decide +kernel
theorem dX3_isSo_151 : decode cX3_isSo 151 = .ok (.getfield 63, 3) := by decide +kernel
theorem dX3_isSo_154 : decode cX3_isSo 154 = .ok (.iload_n 2, 1) := by decide +kernel
theorem dX3_isSo_155 : decode cX3_isSo 155 = .ok (.iconst 1, 1) := by decide +kernel
theorem dX3_isSo_156 : decode cX3_isSo 156 = .ok (.isub, 1) := by decide +kernel
theorem dX3_isSo_157 : decode cX3_isSo 157 = .ok (.laload, 1) := by decide +kernel
theorem dX3_isSo_158 : decode cX3_isSo 158 = .ok (.lcmp, 1) := by decide +kernel
theorem dX3_isSo_159 : decode cX3_isSo 159 = .ok (.ifCond .ne 7, 3) := by decide +kernel
theorem dX3_isSo_162 : decode cX3_isSo 162 = .ok (.iconst 1, 1) := by decide +kernel
theorem dX3_isSo_163 : decode cX3_isSo 163 = .ok (.goto 4, 3) := by decide +kernel
theorem dX3_isSo_166 : decode cX3_isSo 166 = .ok (.iconst 0, 1) := by decide +kernel
theorem dX3_isSo_167 : decode cX3_isSo 167 = .ok (.istore 7, 2) := by decide +kernel
theorem dX3_isSo_169 : decode cX3_isSo 169 = .ok (.iinc 2 1, 3) := by decide +kernel
theorem dX3_isSo_172 : decode cX3_isSo 172 = .ok (.aload_n 0, 1) := by decide +kernel
theorem dX3_isSo_173 : decode cX3_isSo 173 = .ok (.getfield 25, 3) := by decide +kernel
theorem dX3_isSo_176 : decode cX3_isSo 176 = .ok (.bipush 20, 2) := by decide +kernel
theorem dX3_isSo_178 : decode cX3_isSo 178 = .ok (.laload, 1) := by decide +kernel
theorem dX3_isSo_179 : decode cX3_isSo 179 = .ok (.lstore_n 3, 1) := by decide +kernel
theorem dX3_isSo_180 : decode cX3_isSo 180 = .ok (.aload_n 0, 1) := by decide +kernel
theorem dX3_isSo_181 : decode cX3_isSo 181 = .ok (.getfield 25, 3) := by decide +kernel
theorem dX3_isSo_184 : decode cX3_isSo 184 = .ok (.bipush 21, 2) := by decide +kernel
theorem dX3_isSo_186 : decode cX3_isSo 186 = .ok (.laload, 1) := by decide +kernel
theorem dX3_isSo_187 : decode cX3_isSo 187 = .ok (.lstore 5, 2) := by decide +kernel
theorem dX3_isSo_189 : decode cX3_isSo 189 = .ok (.iinc 8 1, 3) := by decide +kernel
theorem dX3_isSo_192 : decode cX3_isSo 192 = .ok (.goto (-150), 3) := by decide +kernel
theorem dX3_isSo_195 : decode cX3_isSo 195 = .ok (.aload_n 0, 1) := by decide +kernel
theorem dX3_isSo_196 : decode cX3_isSo 196 = .ok (.iconst 1, 1) := by decide +kernel
theorem dX3_isSo_197 : decode cX3_isSo 197 = .ok (.putfield 47, 3) := by decide +kernel
theorem dX3_isSo_200 : decode cX3_isSo 200 = .ok (.aload_n 0, 1) := by decide +kernel
theorem dX3_isSo_201 : decode cX3_isSo 201 = .ok (.getfield 32, 3) := by decide +kernel
theorem dX3_isSo_204 : decode cX3_isSo 204 = .ok (.aload_n 0, 1) := by decide +kernel
theorem dX3_isSo_205 : decode cX3_isSo 205 = .ok (.getfield 25, 3) := by decide +kernel
theorem dX3_isSo_208 : decode cX3_isSo 208 = .ok (.invokestatic 117, 3) := by decide +kernel
theorem dX3_isSo_211 : decode cX3_isSo 211 = .ok (.iload 7, 2) := by decide +kernel
theorem dX3_isSo_213 : decode cX3_isSo 213 = .ok (.ifCond .eq 15, 3) := by decide +kernel
theorem dX3_isSo_216 : decode cX3_isSo 216 = .ok (.iload_n 2, 1) := by decide +kernel
theorem dX3_isSo_217 : decode cX3_isSo 217 = .ok (.aload_n 0, 1) := by decide +kernel
theorem dX3_isSo_218 : decode cX3_isSo 218 = .ok (.getfield 152, 3) := by decide +kernel
theorem dX3_isSo_221 : decode cX3_isSo 221 = .ok (.if_icmp .le 7, 3) := by decide +kernel
theorem dX3_isSo_224 : decode cX3_isSo 224 = .ok (.iconst 1, 1) := by decide +kernel
theorem dX3_isSo_225 : decode cX3_isSo 225 = .ok (.goto 4, 3) := by decide +kernel
theorem dX3_isSo_228 : decode cX3_isSo 228 = .ok (.iconst 0, 1) := by decide +kernel
theorem dX3_isSo_229 : decode cX3_isSo 229 = .ok (.ireturn, 1) := by decide +kernel
set_option maxRecDepth 20000 in
theorem ggX3_explains_X3_isSo : GoodIn wsX3_explains wsX3_isSo := goodIn_r _ [7, 8, 9, 10, 11, 12, 13, 14, 15, 16, 17, 18, 19, 6, 20, 21, 22, 23, 24, 25, 26, 27, 28, 29, 30, 31, 1, 2, 32, 33, 34, 35, 36, 37, 38, 39, 40, 41, 42, 43, 44, 45, 46, 47, 48, 49, 50, 51, 52, 53, 54, 55, 56, 57, 58, 59, 60, 61, 62, 63, 64, 65, 66, 67, 68, 69, 70, 71, 72, 73, 74, 75, 76, 77, 78, 79, 80, 81, 82, 83, 84, 85, 86, 87, 88, 89, 90, 91, 92, 93, 94, 95, 96, 97, 98, 99, 100, 101, 102] (by decide +kernel) (by decide +kernel)
set_option maxRecDepth 20000 in
theorem gX3_explains_X3_isSo : GoodIn wsX3_explains (wsV RX3 187 RX3 yX3_isSo wsX3_isSo) := goodIn_app (goodIn_of _ (by decide +kernel)) ggX3_explains_X3_isSo
theorem dX3_explains_0 : decode cX3_explains 0 = .ok (.iload_n 3, 1) := by decide +kernel
theorem dX3_explains_1 : decode cX3_explains 1 = .ok (.ifCond .ne 12, 3) := by decide +kernel
theorem dX3_explains_4 : decode cX3_explains 4 = .ok (.aload_n 0, 1) := by decide +kernel
theorem dX3_explains_5 : decode cX3_explains 5 = .ok (.getfield 16, 3) := by decide +kernel
theorem dX3_explains_8 : decode cX3_explains 8 = .ok (.iload_n 2, 1) := by decide +kernel
theorem dX3_explains_9 : decode cX3_explains 9 = .ok (.iaload, 1) := by decide +kernel
theorem dX3_explains_10 : decode cX3_explains 10 = .ok (.goto 9, 3) := by decide +kernel
theorem dX3_explains_13 : decode cX3_explains 13 = .ok (.aload_n 0, 1) := by decide +kernel
theorem dX3_explains_14 : decode cX3_explains 14 = .ok (.getfield 19, 3) := by decide +kernel
theorem dX3_explains_17 : decode cX3_explains 17 = .ok (.iload_n 2, 1) := by decide +kernel
theorem dX3_explains_18 : decode cX3_explains 18 = .ok (.iaload, 1) := by decide +kernel
theorem dX3_explains_19 : decode cX3_explains 19 = .ok (.istore 5, 2) := by decide +kernel
theorem dX3_explains_21 : decode cX3_explains 21 = .ok (.iload 4, 2) := by decide +kernel
theorem dX3_explains_23 : decode cX3_explains 23 = .ok (.iload 5, 2) := by decide +kernel
theorem dX3_explains_25 : decode cX3_explains 25 = .ok (.if_icmp .ne 5, 3) := by decide +kernel
theorem dX3_explains_28 : decode cX3_explains 28 = .ok (.iconst 0, 1) := by decide +kernel
theorem dX3_explains_29 : decode cX3_explains 29 = .ok (.ireturn, 1) := by decide +kernel
theorem dX3_explains_30 : decode cX3_explains 30 = .ok (.iload_n 3, 1) := by decide +kernel
theorem dX3_explains_31 : decode cX3_explains 31 = .ok (.ifCond .ne 14, 3) := by decide +kernel
theorem dX3_explains_34 : decode cX3_explains 34 = .ok (.aload_n 0, 1) := by decide +kernel
theorem dX3_explains_35 : decode cX3_explains 35 = .ok (.getfield 16, 3) := by decide +kernel
theorem dX3_explains_38 : decode cX3_explains 38 = .ok (.iload_n 2, 1) := by decide +kernel
theorem dX3_explains_39 : decode cX3_explains 39 = .ok (.iload 4, 2) := by decide +kernel
theorem dX3_explains_41 : decode cX3_explains 41 = .ok (.iastore, 1) := by decide +kernel
theorem dX3_explains_42 : decode cX3_explains 42 = .ok (.goto 11, 3) := by decide +kernel
theorem dX3_explains_45 : decode cX3_explains 45 = .ok (.aload_n 0, 1) := by decide +kernel
theorem dX3_explains_46 : decode cX3_explains 46 = .ok (.getfield 19, 3) := by decide +kernel
theorem dX3_explains_49 : decode cX3_explains 49 = .ok (.iload_n 2, 1) := by decide +kernel
theorem dX3_explains_50 : decode cX3_explains 50 = .ok (.iload 4, 2) := by decide +kernel
theorem dX3_explains_52 : decode cX3_explains 52 = .ok (.iastore, 1) := by decide +kernel
theorem dX3_explains_53 : decode cX3_explains 53 = .ok (.aload_n 0, 1) := by decide +kernel
theorem dX3_explains_54 : decode cX3_explains 54 = .ok (.iload_n 1, 1) := by decide +kernel
theorem dX3_explains_55 : decode cX3_explains 55 = .ok (.invokevirtual 187, 3) := by decide +kernel
theorem dX3_explains_58 : decode cX3_explains 58 = .ok (.istore 6, 2) := by decide +kernel
theorem dX3_explains_60 : decode cX3_explains 60 = .ok (.iload_n 3, 1) := by decide +kernel
theorem dX3_explains_61 : decode cX3_explains 61 = .ok (.ifCond .ne 14, 3) := by decide +kernel
theorem dX3_explains_64 : decode cX3_explains 64 = .ok (.aload_n 0, 1) := by decide +kernel
theorem dX3_explains_65 : decode cX3_explains 65 = .ok (.getfield 16, 3) := by decide +kernel
theorem dX3_explains_68 : decode cX3_explains 68 = .ok (.iload_n 2, 1) := by decide +kernel
theorem dX3_explains_69 : decode cX3_explains 69 = .ok (.iload 5, 2) := by decide +kernel
theorem dX3_explains_71 : decode cX3_explains 71 = .ok (.iastore, 1) := by decide +kernel
theorem dX3_explains_72 : decode cX3_explains 72 = .ok (.goto 11, 3) := by decide +kernel
theorem dX3_explains_75 : decode cX3_explains 75 = .ok (.aload_n 0, 1) := by decide +kernel
theorem dX3_explains_76 : decode cX3_explains 76 = .ok (.getfield 19, 3) := by decide +kernel
theorem dX3_explains_79 : decode cX3_explains 79 = .ok (.iload_n 2, 1) := by decide +kernel
theorem dX3_explains_80 : decode cX3_explains 80 = .ok (.iload 5, 2) := by decide +kernel
theorem dX3_explains_82 : decode cX3_explains 82 = .ok (.iastore, 1) := by decide +kernel
theorem dX3_explains_83 : decode cX3_explains 83 = .ok (.iload 6, 2) := by decide +kernel
theorem dX3_explains_85 : decode cX3_explains 85 = .ok (.ireturn, 1) := by decide +kernel
set_option maxRecDepth 20000 in
theorem ggX3_explaining_X3_explains : GoodIn wsX3_explaining wsX3_explains := goodIn_r _ [8, 9, 10, 11, 12, 13, 7, 14, 15, 16, 17, 18, 19, 20, 21, 22, 23, 24, 25, 26, 27, 28, 29, 30, 31, 32, 33, 34, 35, 36, 1, 37, 38, 39, 40, 41, 42, 43, 44, 45, 46, 47, 48, 49, 50, 51, 52, 53, 54, 55, 56, 57, 58, 59, 60, 61, 62, 63, 64, 65, 66, 67, 68, 69, 70, 71, 72, 73, 74, 75, 76, 77, 78, 79, 80, 81, 82, 83, 84, 85, 86, 87, 88, 89, 90, 91, 92, 93, 94, 95, 96, 97, 98, 99, 100, 101, 102, 103, 104, 105, 106, 107, 108] (by decide +kernel) (by decide +kernel)
set_option maxRecDepth 20000 in
theorem gX3_explaining_X3_explains : GoodIn wsX3_explaining (wsV RX3 190 RX3 yX3_explains wsX3_explains) := goodIn_app (goodIn_of _ (by decide +kernel)) ggX3_explaining_X3_explains
theorem dX3_explaining_0 : decode cX3_explaining 0 = .ok (.iconst 0, 1) := by decide +kernel
theorem dX3_explaining_1 : decode cX3_explaining 1 = .ok (.istore_n 3, 1) := by decide +kernel
theorem dX3_explaining_2 : decode cX3_explaining 2 = .ok (.iconst 0, 1) := by decide +kernel
theorem dX3_explaining_3 : decode cX3_explaining 3 = .ok (.istore 4, 2) := by decide +kernel
theorem dX3_explaining_5 : decode cX3_explaining 5 = .ok (.iload 4, 2) := by decide +kernel
theorem dX3_explaining_7 : decode cX3_explaining 7 = .ok (.aload_n 0, 1) := by decide +kernel
theorem dX3_explaining_8 : decode cX3_explaining 8 = .ok (.getfield 73, 3) := by decide +kernel
theorem dX3_explaining_11 : decode cX3_explaining 11 = .ok (.if_icmp .ge 93, 3) := by decide +kernel
theorem dX3_explaining_14 : decode cX3_explaining 14 = .ok (.iconst 0, 1) := by decide +kernel
theorem dX3_explaining_15 : decode cX3_explaining 15 = .ok (.istore 5, 2) := by decide +kernel
theorem dX3_explaining_17 : decode cX3_explaining 17 = .ok (.iload 5, 2) := by decide +kernel
theorem dX3_explaining_19 : decode cX3_explaining 19 = .ok (.iconst 2, 1) := by decide +kernel
theorem dX3_explaining_20 : decode cX3_explaining 20 = .ok (.if_icmp .ge 78, 3) := by decide +kernel
theorem dX3_explaining_23 : decode cX3_explaining 23 = .ok (.iconst 0, 1) := by decide +kernel
theorem dX3_explaining_24 : decode cX3_explaining 24 = .ok (.istore 6, 2) := by decide +kernel
theorem dX3_explaining_26 : decode cX3_explaining 26 = .ok (.iload 6, 2) := by decide +kernel
theorem dX3_explaining_28 : decode cX3_explaining 28 = .ok (.aload_n 0, 1) := by decide +kernel
theorem dX3_explaining_29 : decode cX3_explaining 29 = .ok (.getfield 149, 3) := by decide +kernel
theorem dX3_explaining_32 : decode cX3_explaining 32 = .ok (.if_icmp .ge 60, 3) := by decide +kernel
theorem dX3_explaining_35 : decode cX3_explaining 35 = .ok (.aload_n 0, 1) := by decide +kernel
theorem dX3_explaining_36 : decode cX3_explaining 36 = .ok (.iload_n 1, 1) := by decide +kernel
theorem dX3_explaining_37 : decode cX3_explaining 37 = .ok (.iload 4, 2) := by decide +kernel
theorem dX3_explaining_39 : decode cX3_explaining 39 = .ok (.iload 5, 2) := by decide +kernel
theorem dX3_explaining_41 : decode cX3_explaining 41 = .ok (.aload_n 0, 1) := by decide +kernel
theorem dX3_explaining_42 : decode cX3_explaining 42 = .ok (.getfield 57, 3) := by decide +kernel
theorem dX3_explaining_45 : decode cX3_explaining 45 = .ok (.iload 6, 2) := by decide +kernel
theorem dX3_explaining_47 : decode cX3_explaining 47 = .ok (.iaload, 1) := by decide +kernel
theorem dX3_explaining_48 : decode cX3_explaining 48 = .ok (.invokevirtual 190, 3) := by decide +kernel
theorem dX3_explaining_51 : decode cX3_explaining 51 = .ok (.ifCond .ne 6, 3) := by decide +kernel
theorem dX3_explaining_54 : decode cX3_explaining 54 = .ok (.goto 32, 3) := by decide +kernel
theorem dX3_explaining_57 : decode cX3_explaining 57 = .ok (.iload_n 3, 1) := by decide +kernel
theorem dX3_explaining_58 : decode cX3_explaining 58 = .ok (.iload_n 2, 1) := by decide +kernel
theorem dX3_explaining_59 : decode cX3_explaining 59 = .ok (.if_icmp .ne 24, 3) := by decide +kernel
theorem dX3_explaining_62 : decode cX3_explaining 62 = .ok (.sipush 1000, 3) := by decide +kernel
theorem dX3_explaining_65 : decode cX3_explaining 65 = .ok (.iload 4, 2) := by decide +kernel
theorem dX3_explaining_67 : decode cX3_explaining 67 = .ok (.imul, 1) := by decide +kernel
theorem dX3_explaining_68 : decode cX3_explaining 68 = .ok (.bipush 100, 2) := by decide +kernel
theorem dX3_explaining_70 : decode cX3_explaining 70 = .ok (.iload 5, 2) := by decide +kernel
theorem dX3_explaining_72 : decode cX3_explaining 72 = .ok (.imul, 1) := by decide +kernel
theorem dX3_explaining_73 : decode cX3_explaining 73 = .ok (.iadd, 1) := by decide +kernel
theorem dX3_explaining_74 : decode cX3_explaining 74 = .ok (.aload_n 0, 1) := by decide +kernel
theorem dX3_explaining_75 : decode cX3_explaining 75 = .ok (.getfield 57, 3) := by decide +kernel
theorem dX3_explaining_78 : decode cX3_explaining 78 = .ok (.iload 6, 2) := by decide +kernel
theorem dX3_explaining_80 : decode cX3_explaining 80 = .ok (.iaload, 1) := by decide +kernel
theorem dX3_explaining_81 : decode cX3_explaining 81 = .ok (.iadd, 1) := by decide +kernel
theorem dX3_explaining_82 : decode cX3_explaining 82 = .ok (.ireturn, 1) := by decide +kernel
theorem dX3_explaining_83 : decode cX3_explaining 83 = .ok (.iinc 3 1, 3) := by decide +kernel
theorem dX3_explaining_86 : decode cX3_explaining 86 = .ok (.iinc 6 1, 3) := by decide +kernel
theorem dX3_explaining_89 : decode cX3_explaining 89 = .ok (.goto (-63), 3) := by decide +kernel
theorem dX3_explaining_92 : decode cX3_explaining 92 = .ok (.iinc 5 1, 3) := by decide +kernel
theorem dX3_explaining_95 : decode cX3_explaining 95 = .ok (.goto (-78), 3) := by decide +kernel
theorem dX3_explaining_98 : decode cX3_explaining 98 = .ok (.iinc 4 1, 3) := by decide +kernel
theorem dX3_explaining_101 : decode cX3_explaining 101 = .ok (.goto (-96), 3) := by decide +kernel
theorem dX3_explaining_104 : decode cX3_explaining 104 = .ok (.iload_n 2, 1) := by decide +kernel
theorem dX3_explaining_105 : decode cX3_explaining 105 = .ok (.iconst (-1), 1) := by decide +kernel
theorem dX3_explaining_106 : decode cX3_explaining 106 = .ok (.if_icmp .ne 7, 3) := by decide +kernel
theorem dX3_explaining_109 : decode cX3_explaining 109 = .ok (.iload_n 3, 1) := by decide +kernel
theorem dX3_explaining_110 : decode cX3_explaining 110 = .ok (.goto 4, 3) := by decide +kernel
theorem dX3_explaining_113 : decode cX3_explaining 113 = .ok (.iconst (-1), 1) := by decide +kernel
theorem dX3_explaining_114 : decode cX3_explaining 114 = .ok (.ireturn, 1) := by decide +kernel
set_option maxRecDepth 20000 in
theorem ggX3_faults_X3_isCell : GoodIn wsX3_faults wsX3_isCell := goodIn_r _ [6, 7, 8, 9, 5, 10, 93, 94, 95, 96, 97, 98, 99, 100, 101, 102, 103, 104, 105, 106, 107, 108, 109, 110, 111, 112, 113, 114, 115, 116, 117, 118, 119, 120] (by decide +kernel) (by decide +kernel)
set_option maxRecDepth 20000 in
theorem gX3_faults_X3_isCell : GoodIn wsX3_faults (wsV RX3 97 RX3 yX3_isCell wsX3_isCell) := goodIn_app (goodIn_of _ (by decide +kernel)) ggX3_faults_X3_isCell
set_option maxRecDepth 20000 in
theorem ggX3_faults_X3_explaining : GoodIn wsX3_faults wsX3_explaining := goodIn_r _ [14, 7, 15, 16, 17, 18, 19, 5, 20, 21, 22, 23, 24, 25, 26, 27, 28, 29, 30, 31, 32, 33, 34, 35, 36, 37, 38, 39, 40, 41, 42, 43, 44, 45, 46, 47, 48, 49, 50, 51, 52, 53, 54, 55, 56, 57, 58, 59, 60, 61, 62, 63, 64, 65, 66, 67, 68, 69, 70, 71, 72, 73, 74, 75, 76, 77, 78, 79, 80, 81, 82, 83, 84, 85, 86, 87, 88, 89, 90, 91, 92, 93, 94, 95, 96, 97, 98, 99, 100, 101, 102, 103, 104, 105, 106, 107, 108, 109, 110, 111, 112, 113, 114, 115, 116, 117, 118, 119, 120] (by decide +kernel) (by decide +kernel)
set_option maxRecDepth 20000 in
theorem gX3_faults_X3_explaining : GoodIn wsX3_faults (wsV RX3 194 RX3 yX3_explaining wsX3_explaining) := goodIn_app (goodIn_of _ (by decide +kernel)) ggX3_faults_X3_explaining
theorem dX3_faults_0 : decode cX3_faults 0 = .ok (.aload_n 0, 1) := by decide +kernel
theorem dX3_faults_1 : decode cX3_faults 1 = .ok (.iconst 0, 1) := by decide +kernel
theorem dX3_faults_2 : decode cX3_faults 2 = .ok (.putfield 69, 3) := by decide +kernel
theorem dX3_faults_5 : decode cX3_faults 5 = .ok (.aload_n 0, 1) := by decide +kernel
theorem dX3_faults_6 : decode cX3_faults 6 = .ok (.iload_n 1, 1) := by decide +kernel
theorem dX3_faults_7 : decode cX3_faults 7 = .ok (.invokevirtual 97, 3) := by decide +kernel
theorem dX3_faults_10 : decode cX3_faults 10 = .ok (.ifCond .eq 12, 3) := by decide +kernel
theorem dX3_faults_13 : decode cX3_faults 13 = .ok (.aload_n 0, 1) := by decide +kernel
theorem dX3_faults_14 : decode cX3_faults 14 = .ok (.iload_n 1, 1) := by decide +kernel
theorem dX3_faults_15 : decode cX3_faults 15 = .ok (.iconst (-1), 1) := by decide +kernel
theorem dX3_faults_16 : decode cX3_faults 16 = .ok (.invokevirtual 194, 3) := by decide +kernel
theorem dX3_faults_19 : decode cX3_faults 19 = .ok (.goto 4, 3) := by decide +kernel
theorem dX3_faults_22 : decode cX3_faults 22 = .ok (.iconst (-1), 1) := by decide +kernel
theorem dX3_faults_23 : decode cX3_faults 23 = .ok (.ireturn, 1) := by decide +kernel
set_option maxRecDepth 20000 in
theorem ggX3_fault_X3_isCell : GoodIn wsX3_fault wsX3_isCell := goodIn_r _ [6, 7, 8, 9, 5, 10, 93, 94, 95, 96, 97, 98, 99, 100, 101, 102, 103, 104, 105, 106, 107, 108, 109, 110, 111, 112, 113, 114, 115, 116, 117, 118, 119, 120] (by decide +kernel) (by decide +kernel)
set_option maxRecDepth 20000 in
theorem gX3_fault_X3_isCell : GoodIn wsX3_fault (wsV RX3 97 RX3 yX3_isCell wsX3_isCell) := goodIn_app (goodIn_of _ (by decide +kernel)) ggX3_fault_X3_isCell
set_option maxRecDepth 20000 in
theorem ggX3_fault_X3_explaining : GoodIn wsX3_fault wsX3_explaining := goodIn_r _ [14, 7, 15, 16, 17, 18, 19, 5, 20, 21, 22, 23, 24, 25, 26, 27, 28, 29, 30, 31, 32, 33, 34, 35, 36, 37, 38, 39, 40, 41, 42, 43, 44, 45, 46, 47, 48, 49, 50, 51, 52, 53, 54, 55, 56, 57, 58, 59, 60, 61, 62, 63, 64, 65, 66, 67, 68, 69, 70, 71, 72, 73, 74, 75, 76, 77, 78, 79, 80, 81, 82, 83, 84, 85, 86, 87, 88, 89, 90, 91, 92, 93, 94, 95, 96, 97, 98, 99, 100, 101, 102, 103, 104, 105, 106, 107, 108, 109, 110, 111, 112, 113, 114, 115, 116, 117, 118, 119, 120] (by decide +kernel) (by decide +kernel)
set_option maxRecDepth 20000 in
theorem gX3_fault_X3_explaining : GoodIn wsX3_fault (wsV RX3 194 RX3 yX3_explaining wsX3_explaining) := goodIn_app (goodIn_of _ (by decide +kernel)) ggX3_fault_X3_explaining
theorem dX3_fault_0 : decode cX3_fault 0 = .ok (.aload_n 0, 1) := by decide +kernel
theorem dX3_fault_1 : decode cX3_fault 1 = .ok (.iconst 0, 1) := by decide +kernel
theorem dX3_fault_2 : decode cX3_fault 2 = .ok (.putfield 69, 3) := by decide +kernel
theorem dX3_fault_5 : decode cX3_fault 5 = .ok (.aload_n 0, 1) := by decide +kernel
theorem dX3_fault_6 : decode cX3_fault 6 = .ok (.iload_n 1, 1) := by decide +kernel
theorem dX3_fault_7 : decode cX3_fault 7 = .ok (.invokevirtual 97, 3) := by decide +kernel
theorem dX3_fault_10 : decode cX3_fault 10 = .ok (.ifCond .eq 16, 3) := by decide +kernel
theorem dX3_fault_13 : decode cX3_fault 13 = .ok (.iload_n 2, 1) := by decide +kernel
theorem dX3_fault_14 : decode cX3_fault 14 = .ok (.ifCond .lt 12, 3) := by decide +kernel
theorem dX3_fault_17 : decode cX3_fault 17 = .ok (.aload_n 0, 1) := by decide +kernel
theorem dX3_fault_18 : decode cX3_fault 18 = .ok (.iload_n 1, 1) := by decide +kernel
theorem dX3_fault_19 : decode cX3_fault 19 = .ok (.iload_n 2, 1) := by decide +kernel
theorem dX3_fault_20 : decode cX3_fault 20 = .ok (.invokevirtual 194, 3) := by decide +kernel
theorem dX3_fault_23 : decode cX3_fault 23 = .ok (.goto 4, 3) := by decide +kernel
theorem dX3_fault_26 : decode cX3_fault 26 = .ok (.iconst (-1), 1) := by decide +kernel
theorem dX3_fault_27 : decode cX3_fault 27 = .ok (.ireturn, 1) := by decide +kernel
set_option maxRecDepth 20000 in
theorem ggX3_fits_X3_isCell : GoodIn wsX3_fits wsX3_isCell := goodIn_r _ [6, 7, 8, 9, 5, 10, 83, 84, 85, 86, 87, 88, 89, 90, 91, 92, 93, 94, 95, 96, 97, 98, 99, 100, 101, 102, 103, 104, 105, 106, 107, 108, 109, 110] (by decide +kernel) (by decide +kernel)
set_option maxRecDepth 20000 in
theorem gX3_fits_X3_isCell : GoodIn wsX3_fits (wsV RX3 97 RX3 yX3_isCell wsX3_isCell) := goodIn_app (goodIn_of _ (by decide +kernel)) ggX3_fits_X3_isCell
set_option maxRecDepth 20000 in
theorem ggX3_fits_X3_isSo : GoodIn wsX3_fits wsX3_isSo := goodIn_r _ [14, 15, 16, 17, 18, 19, 20, 21, 22, 23, 24, 25, 26, 5, 27, 28, 29, 30, 31, 32, 33, 34, 35, 36, 7, 37, 38, 39, 40, 41, 42, 43, 44, 45, 46, 47, 48, 49, 50, 51, 52, 53, 54, 55, 56, 57, 58, 59, 60, 61, 62, 63, 64, 65, 66, 67, 68, 69, 70, 71, 72, 73, 74, 75, 76, 77, 78, 79, 80, 81, 82, 83, 84, 85, 86, 87, 88, 89, 90, 91, 92, 93, 94, 95, 96, 97, 98, 99, 100, 101, 102, 103, 104, 105, 106, 107, 108, 109, 110] (by decide +kernel) (by decide +kernel)
set_option maxRecDepth 20000 in
theorem gX3_fits_X3_isSo : GoodIn wsX3_fits (wsV RX3 187 RX3 yX3_isSo wsX3_isSo) := goodIn_app (goodIn_of _ (by decide +kernel)) ggX3_fits_X3_isSo
theorem dX3_fits_0 : decode cX3_fits 0 = .ok (.aload_n 0, 1) := by decide +kernel
theorem dX3_fits_1 : decode cX3_fits 1 = .ok (.iconst 0, 1) := by decide +kernel
theorem dX3_fits_2 : decode cX3_fits 2 = .ok (.putfield 69, 3) := by decide +kernel
theorem dX3_fits_5 : decode cX3_fits 5 = .ok (.aload_n 0, 1) := by decide +kernel
theorem dX3_fits_6 : decode cX3_fits 6 = .ok (.iload_n 1, 1) := by decide +kernel
theorem dX3_fits_7 : decode cX3_fits 7 = .ok (.invokevirtual 97, 3) := by decide +kernel
theorem dX3_fits_10 : decode cX3_fits 10 = .ok (.ifCond .eq 19, 3) := by decide +kernel
theorem dX3_fits_13 : decode cX3_fits 13 = .ok (.aload_n 0, 1) := by decide +kernel
theorem dX3_fits_14 : decode cX3_fits 14 = .ok (.iload_n 1, 1) := by decide +kernel
theorem dX3_fits_15 : decode cX3_fits 15 = .ok (.invokevirtual 187, 3) := by decide +kernel
theorem dX3_fits_18 : decode cX3_fits 18 = .ok (.ifCond .eq 7, 3) := by decide +kernel
theorem dX3_fits_21 : decode cX3_fits 21 = .ok (.iconst 1, 1) := by decide +kernel
theorem dX3_fits_22 : decode cX3_fits 22 = .ok (.goto 8, 3) := by decide +kernel
theorem dX3_fits_25 : decode cX3_fits 25 = .ok (.iconst 0, 1) := by decide +kernel
theorem dX3_fits_26 : decode cX3_fits 26 = .ok (.goto 4, 3) := by decide +kernel
theorem dX3_fits_29 : decode cX3_fits 29 = .ok (.iconst (-1), 1) := by decide +kernel
theorem dX3_fits_30 : decode cX3_fits 30 = .ok (.ireturn, 1) := by decide +kernel
theorem dJ9_abs_067f4_0 : decode cJ9_abs_067f4 0 = .ok (.lload_n 0, 1) := by decide +kernel
theorem dJ9_abs_067f4_1 : decode cJ9_abs_067f4 1 = .ok (.lconst 0, 1) := by decide +kernel
theorem dJ9_abs_067f4_2 : decode cJ9_abs_067f4 2 = .ok (.lcmp, 1) := by decide +kernel
theorem dJ9_abs_067f4_3 : decode cJ9_abs_067f4 3 = .ok (.ifCond .ge 8, 3) := by decide +kernel
theorem dJ9_abs_067f4_6 : decode cJ9_abs_067f4 6 = .ok (.lload_n 0, 1) := by decide +kernel
theorem dJ9_abs_067f4_7 : decode cJ9_abs_067f4 7 = .ok (.lneg, 1) := by decide +kernel
theorem dJ9_abs_067f4_8 : decode cJ9_abs_067f4 8 = .ok (.goto 4, 3) := by decide +kernel
theorem dJ9_abs_067f4_11 : decode cJ9_abs_067f4 11 = .ok (.lload_n 0, 1) := by decide +kernel
theorem dJ9_abs_067f4_12 : decode cJ9_abs_067f4 12 = .ok (.lreturn, 1) := by decide +kernel
set_option maxRecDepth 20000 in
theorem ggL_of_X2_of : GoodIn wsL_of wsX2_of := goodIn_ca (goodIn_r _ [6, 7, 8, 9, 10, 11, 12, 13, 14, 15, 16, 17, 5, 18, 19, 20, 21, 22, 23, 24, 25, 26, 27, 28, 29, 30, 31, 32, 33, 34, 35, 36, 37, 38, 39, 40, 41, 42, 43, 44, 45, 46, 47, 48, 49, 50, 51, 52, 53, 54, 55, 56, 57, 58, 59, 60, 61, 62, 63, 64, 65, 66, 67, 68, 69, 70, 71, 72, 73, 74, 75] (by decide +kernel) (by decide +kernel)) (goodIn_sub (fun _ h => List.mem_cons_of_mem _ (List.mem_append_right _ h)) (by decide +kernel))
set_option maxRecDepth 20000 in
theorem gL_of_X2_of : GoodIn wsL_of (wsV RL 7 RX2 yX2_of wsX2_of) := goodIn_app (goodIn_of _ (by decide +kernel)) ggL_of_X2_of
theorem dL_of_0 : decode cL_of 0 = .ok (.aload_n 3, 1) := by decide +kernel
theorem dL_of_1 : decode cL_of 1 = .ok (.iconst 0, 1) := by decide +kernel
theorem dL_of_2 : decode cL_of 2 = .ok (.aload_n 0, 1) := by decide +kernel
theorem dL_of_3 : decode cL_of 3 = .ok (.iload_n 1, 1) := by decide +kernel
theorem dL_of_4 : decode cL_of 4 = .ok (.iload_n 2, 1) := by decide +kernel
theorem dL_of_5 : decode cL_of 5 = .ok (.invokevirtual 7, 3) := by decide +kernel
theorem dL_of_8 : decode cL_of 8 = .ok (.i2l, 1) := by decide +kernel
theorem dL_of_9 : decode cL_of 9 = .ok (.lastore, 1) := by decide +kernel
theorem dL_of_10 : decode cL_of 10 = .ok (.goto 7, 3) := by decide +kernel
theorem dL_of_13 : decode cL_of 13 = .ok (.astore 4, 2) := by decide +kernel
theorem dL_of_15 : decode cL_of 15 = .ok (.iconst 1, 1) := by decide +kernel
theorem dL_of_16 : decode cL_of 16 = .ok (.ireturn, 1) := by decide +kernel
theorem dL_of_17 : decode cL_of 17 = .ok (.iconst 0, 1) := by decide +kernel
theorem dL_of_18 : decode cL_of 18 = .ok (.ireturn, 1) := by decide +kernel
set_option maxRecDepth 20000 in
theorem ggL_law_X2_init : GoodIn wsL_law wsX2_init := goodIn_r _ [9, 10, 11, 12, 13, 14, 15, 16, 17, 18, 19, 20, 21, 22, 23, 24, 25, 6, 26, 27, 28, 29, 30, 31, 32, 33, 34, 35, 36, 37, 38, 39, 40, 41, 42, 43, 44, 45, 46, 47, 48, 49, 50, 51, 52, 53, 54, 55, 56, 57, 58, 59, 60, 61, 62, 63, 64, 65, 600, 601, 602, 603, 604, 605, 606, 607, 608, 609, 610, 611, 555, 556, 557, 558, 559, 560, 561, 562, 563, 564, 565, 566, 567, 568, 569, 570, 571, 612, 613, 614, 615, 616, 617, 618, 619, 620, 621] (by decide +kernel) (by decide +kernel)
set_option maxRecDepth 20000 in
theorem gL_law_X2_init : GoodIn wsL_law (wsX2_init) := ggL_law_X2_init
set_option maxRecDepth 20000 in
theorem ggL_law_X3_init : GoodIn wsL_law wsX3_init := goodIn_r _ [68, 69, 11, 12, 23, 70, 71, 72, 73, 74, 6, 75, 76, 77, 78, 79, 80, 81, 82, 83, 84, 85, 86, 87, 88, 89, 90, 5, 91, 572, 573, 574, 575, 576, 577, 578, 579, 580, 581, 582, 583, 584, 585, 586, 587, 588, 589, 590, 591, 592, 593, 594, 595, 596, 597, 598, 599] (by decide +kernel) (by decide +kernel)
set_option maxRecDepth 20000 in
theorem gL_law_X3_init : GoodIn wsL_law (wsX3_init) := ggL_law_X3_init
set_option maxRecDepth 20000 in
theorem ggL_law_X2_cell : GoodIn wsL_law wsX2_cell := goodIn_r _ [95, 16, 96, 97, 98, 99, 100, 101, 102, 2, 103, 104, 105, 106, 107, 20, 22, 24, 25, 108, 109, 110, 19, 111, 55, 56, 57, 112, 58, 60, 61, 555, 556, 557, 558, 559, 560, 561, 562, 563, 564, 565, 566, 567, 568, 569, 570, 571, 600, 601, 602, 603, 604, 605, 606, 607, 608, 609, 610, 611, 612, 613, 614, 615, 616, 617, 618, 619, 620, 621] (by decide +kernel) (by decide +kernel)
set_option maxRecDepth 20000 in
theorem gL_law_X2_cell : GoodIn wsL_law (wsV RL 19 RX2 yX2_cell wsX2_cell) := goodIn_app (goodIn_of _ (by decide +kernel)) ggL_law_X2_cell
set_option maxRecDepth 20000 in
theorem ggL_law_X3_cell : GoodIn wsL_law wsX3_cell := goodIn_r _ [116, 117, 118, 70, 71, 72, 73, 119, 120, 5, 121, 88, 89, 90, 91, 75, 572, 573, 574, 575, 576, 577, 578, 579, 580, 581, 582, 583, 584, 585, 586, 587, 588, 589, 590, 591, 592, 593, 594, 595, 596, 597, 598, 599] (by decide +kernel) (by decide +kernel)
set_option maxRecDepth 20000 in
theorem gL_law_X3_cell : GoodIn wsL_law (wsV RL 23 RX3 yX3_cell wsX3_cell) := goodIn_app (goodIn_of _ (by decide +kernel)) ggL_law_X3_cell
set_option maxRecDepth 20000 in
theorem ggL_law_X2_link : GoodIn wsL_law wsX2_link := goodIn_r _ [125, 16, 126, 127, 128, 129, 130, 131, 132, 133, 134, 135, 2, 136, 96, 137, 138, 139, 104, 105, 106, 107, 20, 22, 24, 25, 108, 109, 110, 19, 111, 55, 56, 57, 112, 58, 60, 61, 555, 556, 557, 558, 559, 560, 561, 562, 563, 564, 565, 566, 567, 568, 569, 570, 571, 600, 601, 602, 603, 604, 605, 606, 607, 608, 609, 610, 611, 612, 613, 614, 615, 616, 617, 618, 619, 620, 621] (by decide +kernel) (by decide +kernel)
set_option maxRecDepth 20000 in
theorem gL_law_X2_link : GoodIn wsL_law (wsV RL 24 RX2 yX2_link wsX2_link) := goodIn_app (goodIn_of _ (by decide +kernel)) ggL_law_X2_link
set_option maxRecDepth 20000 in
theorem ggL_law_X3_link : GoodIn wsL_law wsX3_link := goodIn_r _ [143, 117, 144, 23, 74, 145, 146, 147, 5, 148, 118, 119, 120, 121, 88, 89, 90, 91, 75, 70, 572, 573, 574, 575, 576, 577, 578, 579, 580, 581, 582, 583, 584, 585, 586, 587, 588, 589, 590, 591, 592, 593, 594, 595, 596, 597, 598, 599] (by decide +kernel) (by decide +kernel)
set_option maxRecDepth 20000 in
theorem gL_law_X3_link : GoodIn wsL_law (wsV RL 28 RX3 yX3_link wsX3_link) := goodIn_app (goodIn_of _ (by decide +kernel)) ggL_law_X3_link
set_option maxRecDepth 20000 in
theorem ggL_law_X2_clear : GoodIn wsL_law wsX2_clear := goodIn_r _ [152, 16, 96, 126, 104, 105, 106, 2, 107, 20, 22, 24, 25, 108, 109, 110, 19, 111, 55, 56, 57, 112, 58, 60, 61, 555, 556, 557, 558, 559, 560, 561, 562, 563, 564, 565, 566, 567, 568, 569, 570, 571, 600, 601, 602, 603, 604, 605, 606, 607, 608, 609, 610, 611, 612, 613, 614, 615, 616, 617, 618, 619, 620, 621] (by decide +kernel) (by decide +kernel)
set_option maxRecDepth 20000 in
theorem gL_law_X2_clear : GoodIn wsL_law (wsV RL 29 RX2 yX2_clear wsX2_clear) := goodIn_app (goodIn_of _ (by decide +kernel)) ggL_law_X2_clear
set_option maxRecDepth 20000 in
theorem ggL_law_X3_clear : GoodIn wsL_law wsX3_clear := goodIn_r _ [156, 117, 118, 144, 88, 89, 90, 5, 91, 75, 70, 572, 573, 574, 575, 576, 577, 578, 579, 580, 581, 582, 583, 584, 585, 586, 587, 588, 589, 590, 591, 592, 593, 594, 595, 596, 597, 598, 599] (by decide +kernel) (by decide +kernel)
set_option maxRecDepth 20000 in
theorem gL_law_X3_clear : GoodIn wsL_law (wsV RL 33 RX3 yX3_clear wsX3_clear) := goodIn_app (goodIn_of _ (by decide +kernel)) ggL_law_X3_clear
set_option maxRecDepth 20000 in
theorem ggL_law_X2_reset : GoodIn wsL_law wsX2_reset := goodIn_r _ [160, 22, 104, 105, 106, 2, 107, 20, 16, 24, 25, 108, 109, 110, 19, 111, 55, 56, 57, 112, 58, 60, 61, 555, 556, 557, 558, 559, 560, 561, 562, 563, 564, 565, 566, 567, 568, 569, 570, 571, 612, 613, 614, 615, 616, 617, 618, 619, 620, 621, 600, 601, 602, 603, 604, 605, 606, 607, 608, 609, 610, 611] (by decide +kernel) (by decide +kernel)
set_option maxRecDepth 20000 in
theorem gL_law_X2_reset : GoodIn wsL_law (wsV RL 34 RX2 yX2_reset wsX2_reset) := goodIn_app (goodIn_of _ (by decide +kernel)) ggL_law_X2_reset
set_option maxRecDepth 20000 in
theorem ggL_law_X3_reset : GoodIn wsL_law wsX3_reset := goodIn_r _ [164, 117, 75, 88, 89, 90, 5, 91, 70, 572, 573, 574, 575, 576, 577, 578, 579, 580, 581, 582, 583, 584, 585, 586, 587, 588, 589, 590, 591, 592, 593, 594, 595, 596, 597, 598, 599] (by decide +kernel) (by decide +kernel)
set_option maxRecDepth 20000 in
theorem gL_law_X3_reset : GoodIn wsL_law (wsV RL 37 RX3 yX3_reset wsX3_reset) := goodIn_app (goodIn_of _ (by decide +kernel)) ggL_law_X3_reset
set_option maxRecDepth 20000 in
theorem ggL_law_X2_set : GoodIn wsL_law wsX2_set := goodIn_r _ [168, 16, 133, 134, 135, 2, 136, 96, 101, 102, 103, 169, 170, 171, 15, 172, 43, 44, 104, 105, 106, 107, 20, 22, 24, 25, 108, 109, 110, 19, 111, 55, 56, 57, 112, 58, 60, 61, 555, 556, 557, 558, 559, 560, 561, 562, 563, 564, 565, 566, 567, 568, 569, 570, 571, 600, 601, 602, 603, 604, 605, 606, 607, 608, 609, 610, 611, 612, 613, 614, 615, 616, 617, 618, 619, 620, 621] (by decide +kernel) (by decide +kernel)
set_option maxRecDepth 20000 in
theorem gL_law_X2_set : GoodIn wsL_law (wsV RL 38 RX2 yX2_set wsX2_set) := goodIn_app (goodIn_of _ (by decide +kernel)) ggL_law_X2_set
set_option maxRecDepth 20000 in
theorem ggL_law_X3_set : GoodIn wsL_law wsX3_set := goodIn_r _ [176, 117, 72, 73, 145, 146, 147, 5, 148, 118, 119, 120, 121, 88, 89, 90, 91, 75, 70, 572, 573, 574, 575, 576, 577, 578, 579, 580, 581, 582, 583, 584, 585, 586, 587, 588, 589, 590, 591, 592, 593, 594, 595, 596, 597, 598, 599] (by decide +kernel) (by decide +kernel)
set_option maxRecDepth 20000 in
theorem gL_law_X3_set : GoodIn wsL_law (wsV RL 42 RX3 yX3_set wsX3_set) := goodIn_app (goodIn_of _ (by decide +kernel)) ggL_law_X3_set
set_option maxRecDepth 20000 in
theorem ggL_law_X2_run : GoodIn wsL_law wsX2_run := goodIn_r _ [180, 21, 20, 16, 181, 182, 183, 19, 184, 55, 56, 57, 58, 60, 61, 185, 186, 187, 188, 189, 62, 63, 190, 191, 192, 193, 194, 112, 195, 196, 65, 64, 197, 198, 199, 200, 201, 2, 202, 203, 204, 205, 206, 207, 208, 209, 210, 211, 212, 213, 214, 215, 216, 217, 218, 219, 220, 221, 222, 223, 224, 225, 226, 227, 228, 229, 230, 231, 232, 233, 234, 22, 26, 235, 24, 236, 25, 237, 238, 239, 240, 241, 242, 555, 556, 557, 558, 559, 560, 561, 562, 563, 564, 565, 566, 567, 568, 569, 570, 571, 612, 613, 614, 615, 616, 617, 618, 619, 620, 621, 600, 601, 602, 603, 604, 605, 606, 607, 608, 609, 610, 611] (by decide +kernel) (by decide +kernel)
set_option maxRecDepth 20000 in
theorem gL_law_X2_run : GoodIn wsL_law (wsV RL 43 RX2 yX2_run wsX2_run) := goodIn_app (goodIn_of _ (by decide +kernel)) ggL_law_X2_run
set_option maxRecDepth 20000 in
theorem ggL_law_X3_run : GoodIn wsL_law wsX3_run := goodIn_r _ [246, 117, 119, 120, 5, 121, 247, 248, 249, 250, 118, 75, 76, 251, 252, 253, 254, 72, 73, 144, 82, 255, 78, 79, 80, 81, 256, 257, 258, 259, 260, 261, 262, 71, 70, 263, 264, 265, 266, 267, 268, 269, 270, 271, 272, 273, 274, 275, 276, 277, 278, 279, 280, 281, 282, 283, 284, 285, 74, 286, 287, 288, 289, 290, 291, 292, 293, 572, 573, 574, 575, 576, 577, 578, 579, 580, 581, 582, 583, 584, 585, 586, 587, 588, 589, 590, 591, 592, 593, 594, 595, 596, 597, 598, 599] (by decide +kernel) (by decide +kernel)
set_option maxRecDepth 20000 in
theorem gL_law_X3_run : GoodIn wsL_law (wsV RL 47 RX3 yX3_run wsX3_run) := goodIn_app (goodIn_of _ (by decide +kernel)) ggL_law_X3_run
set_option maxRecDepth 20000 in
theorem ggL_law_X2_count : GoodIn wsL_law wsX2_count := goodIn_r _ [297, 16, 96, 126, 22, 20, 298, 299, 31, 34, 300, 301, 302, 2, 303, 21, 181, 182, 183, 19, 184, 55, 56, 57, 58, 60, 61, 185, 186, 187, 188, 189, 62, 63, 190, 191, 192, 193, 194, 112, 195, 196, 65, 64, 197, 198, 199, 200, 201, 202, 203, 204, 205, 206, 207, 208, 209, 210, 211, 212, 213, 214, 215, 216, 217, 218, 219, 220, 221, 222, 223, 224, 225, 226, 227, 228, 229, 230, 555, 556, 557, 558, 559, 560, 561, 562, 563, 564, 565, 566, 567, 568, 569, 570, 571, 600, 601, 602, 603, 604, 605, 606, 607, 608, 609, 610, 611, 612, 613, 614, 615, 616, 617, 618, 619, 620, 621] (by decide +kernel) (by decide +kernel)
set_option maxRecDepth 20000 in
theorem gL_law_X2_count : GoodIn wsL_law (wsV RL 48 RX2 yX2_count wsX2_count) := goodIn_app (goodIn_of _ (by decide +kernel)) ggL_law_X2_count
set_option maxRecDepth 20000 in
theorem ggL_law_X3_count : GoodIn wsL_law wsX3_count := goodIn_r _ [307, 117, 118, 144, 75, 308, 309, 310, 311, 312, 5, 313, 77, 82, 256, 257, 258, 247, 248, 249, 250, 76, 251, 252, 253, 254, 72, 73, 255, 78, 79, 80, 81, 259, 260, 261, 262, 71, 70, 263, 264, 265, 266, 267, 268, 269, 270, 271, 272, 273, 274, 275, 276, 277, 278, 279, 280, 281, 282, 283, 284, 285, 74, 286, 287, 288, 289, 290, 291, 292, 293, 572, 573, 574, 575, 576, 577, 578, 579, 580, 581, 582, 583, 584, 585, 586, 587, 588, 589, 590, 591, 592, 593, 594, 595, 596, 597, 598, 599] (by decide +kernel) (by decide +kernel)
set_option maxRecDepth 20000 in
theorem gL_law_X3_count : GoodIn wsL_law (wsV RL 51 RX3 yX3_count wsX3_count) := goodIn_app (goodIn_of _ (by decide +kernel)) ggL_law_X3_count
set_option maxRecDepth 20000 in
theorem ggL_law_L_of : GoodIn wsL_law wsL_of := goodIn_ca (goodIn_r _ [317, 318, 319, 320, 321, 2, 322, 323, 324, 20, 325, 326, 327, 24, 25, 133, 134, 135, 136, 16, 96, 328, 329, 330, 331, 99, 100, 332, 333, 334, 15, 335, 42, 41, 336, 201, 202, 555, 556, 557, 558, 559, 560, 561, 562, 563, 564, 565, 566, 567, 568, 569, 570, 571, 612, 613, 614, 615, 616, 617, 618, 619, 620, 621, 600, 601, 602, 603, 604, 605, 606, 607, 608, 609, 610, 611] (by decide +kernel) (by decide +kernel)) (goodIn_sub (fun _ h => List.mem_append_right _ h) (by decide +kernel))
set_option maxRecDepth 20000 in
theorem gL_law_L_of : GoodIn wsL_law (va_wsS RL 52 yL_of wsL_of) := goodIn_app (goodIn_of _ (by decide +kernel)) ggL_law_L_of
set_option maxRecDepth 20000 in
theorem ggL_law_X3_of : GoodIn wsL_law wsX3_of := goodIn_r _ [340, 117, 72, 73, 75, 251, 252, 145, 146, 147, 5, 148, 118, 119, 120, 121, 341, 342, 343, 344, 71, 70, 267, 268, 269, 270, 271, 272, 273, 274, 275, 276, 277, 572, 573, 574, 575, 576, 577, 578, 579, 580, 581, 582, 583, 584, 585, 586, 587, 588, 589, 590, 591, 592, 593, 594, 595, 596, 597, 598, 599] (by decide +kernel) (by decide +kernel)
set_option maxRecDepth 20000 in
theorem gL_law_X3_of : GoodIn wsL_law (wsV RL 57 RX3 yX3_of wsX3_of) := goodIn_app (goodIn_of _ (by decide +kernel)) ggL_law_X3_of
set_option maxRecDepth 20000 in
theorem ggL_law_X3_thrown : GoodIn wsL_law wsX3_thrown := goodIn_r _ [348, 117, 572, 573, 574, 575, 576, 577, 578, 579, 580, 581, 582, 583, 584, 585, 586, 587, 588, 589, 590, 591, 592, 593, 594, 595, 596, 597, 598, 599] (by decide +kernel) (by decide +kernel)
set_option maxRecDepth 20000 in
theorem gL_law_X3_thrown : GoodIn wsL_law (wsV RL 58 RX3 yX3_thrown wsX3_thrown) := goodIn_app (goodIn_of _ (by decide +kernel)) ggL_law_X3_thrown
set_option maxRecDepth 20000 in
theorem ggL_law_X2_counted : GoodIn wsL_law wsX2_counted := goodIn_r _ [352, 16, 126, 20, 353, 555, 556, 557, 558, 559, 560, 561, 562, 563, 564, 565, 566, 567, 568, 569, 570, 571, 600, 601, 602, 603, 604, 605, 606, 607, 608, 609, 610, 611, 612, 613, 614, 615, 616, 617, 618, 619, 620, 621] (by decide +kernel) (by decide +kernel)
set_option maxRecDepth 20000 in
theorem gL_law_X2_counted : GoodIn wsL_law (wsV RL 61 RX2 yX2_counted wsX2_counted) := goodIn_app (goodIn_of _ (by decide +kernel)) ggL_law_X2_counted
set_option maxRecDepth 20000 in
theorem ggL_law_X3_counted : GoodIn wsL_law wsX3_counted := goodIn_r _ [357, 117, 144, 75, 119, 120, 5, 121, 572, 573, 574, 575, 576, 577, 578, 579, 580, 581, 582, 583, 584, 585, 586, 587, 588, 589, 590, 591, 592, 593, 594, 595, 596, 597, 598, 599] (by decide +kernel) (by decide +kernel)
set_option maxRecDepth 20000 in
theorem gL_law_X3_counted : GoodIn wsL_law (wsV RL 64 RX3 yX3_counted wsX3_counted) := goodIn_app (goodIn_of _ (by decide +kernel)) ggL_law_X3_counted
set_option maxRecDepth 20000 in
theorem ggL_law_X2_event : GoodIn wsL_law wsX2_event := goodIn_r _ [361, 22, 26, 362, 363, 2, 364, 365, 366, 367, 368, 369, 370, 371, 372, 373, 374, 555, 556, 557, 558, 559, 560, 561, 562, 563, 564, 565, 566, 567, 568, 569, 570, 571] (by decide +kernel) (by decide +kernel)
set_option maxRecDepth 20000 in
theorem gL_law_X2_event : GoodIn wsL_law (wsV RL 65 RX2 yX2_event wsX2_event) := goodIn_app (goodIn_of _ (by decide +kernel)) ggL_law_X2_event
set_option maxRecDepth 20000 in
theorem ggL_law_X3_event : GoodIn wsL_law wsX3_event := goodIn_r _ [378, 117, 75, 78, 79, 80, 81, 572, 573, 574, 575, 576, 577, 578, 579, 580, 581, 582, 583, 584, 585, 586, 587, 588, 589, 590, 591, 592, 593, 594, 595, 596, 597, 598, 599] (by decide +kernel) (by decide +kernel)
set_option maxRecDepth 20000 in
theorem gL_law_X3_event : GoodIn wsL_law (wsV RL 68 RX3 yX3_event wsX3_event) := goodIn_app (goodIn_of _ (by decide +kernel)) ggL_law_X3_event
set_option maxRecDepth 20000 in
theorem ggL_law_X2_ring : GoodIn wsL_law wsX2_ring := goodIn_r _ [382, 16, 96, 21, 20, 181, 182, 183, 19, 184, 55, 56, 57, 58, 60, 61, 383, 384, 385, 2, 386, 27, 325, 326, 387, 241, 242, 388, 389, 390, 391, 392, 237, 238, 239, 240, 62, 63, 185, 186, 187, 188, 189, 190, 191, 192, 193, 194, 112, 195, 196, 65, 64, 197, 198, 199, 200, 201, 202, 203, 204, 205, 206, 207, 208, 209, 210, 211, 212, 213, 214, 215, 216, 217, 218, 219, 220, 221, 222, 223, 224, 225, 226, 227, 228, 229, 230, 393, 394, 395, 396, 397, 398, 399, 400, 401, 402, 403, 404, 28, 29, 405, 406, 407, 408, 409, 410, 411, 368, 369, 370, 371, 372, 373, 374, 412, 413, 414, 336, 365, 366, 367, 362, 363, 364, 555, 556, 557, 558, 559, 560, 561, 562, 563, 564, 565, 566, 567, 568, 569, 570, 571, 600, 601, 602, 603, 604, 605, 606, 607, 608, 609, 610, 611, 612, 613, 614, 615, 616, 617, 618, 619, 620, 621] (by decide +kernel) (by decide +kernel)
set_option maxRecDepth 20000 in
theorem gL_law_X2_ring : GoodIn wsL_law (wsV RL 69 RX2 yX2_ring wsX2_ring) := goodIn_app (goodIn_of _ (by decide +kernel)) ggL_law_X2_ring
set_option maxRecDepth 20000 in
theorem ggL_law_X3_ring : GoodIn wsL_law wsX3_ring := goodIn_r _ [418, 117, 118, 75, 77, 82, 119, 120, 5, 121, 256, 257, 258, 419, 420, 421, 422, 423, 424, 425, 426, 83, 247, 248, 249, 250, 76, 251, 252, 253, 254, 72, 73, 144, 255, 78, 79, 80, 81, 259, 260, 261, 262, 71, 70, 263, 264, 265, 266, 267, 268, 269, 270, 271, 272, 273, 274, 275, 276, 277, 278, 279, 280, 281, 282, 283, 284, 285, 74, 286, 287, 288, 289, 290, 291, 292, 293, 427, 428, 429, 430, 431, 432, 433, 434, 435, 84, 572, 573, 574, 575, 576, 577, 578, 579, 580, 581, 582, 583, 584, 585, 586, 587, 588, 589, 590, 591, 592, 593, 594, 595, 596, 597, 598, 599] (by decide +kernel) (by decide +kernel)
set_option maxRecDepth 20000 in
theorem gL_law_X3_ring : GoodIn wsL_law (wsV RL 72 RX3 yX3_ring wsX3_ring) := goodIn_app (goodIn_of _ (by decide +kernel)) ggL_law_X3_ring
set_option maxRecDepth 20000 in
theorem ggL_law_X2_ringed : GoodIn wsL_law wsX2_ringed := goodIn_r _ [439, 29, 28, 440, 555, 556, 557, 558, 559, 560, 561, 562, 563, 564, 565, 566, 567, 568, 569, 570, 571] (by decide +kernel) (by decide +kernel)
set_option maxRecDepth 20000 in
theorem gL_law_X2_ringed : GoodIn wsL_law (wsV RL 73 RX2 yX2_ringed wsX2_ringed) := goodIn_app (goodIn_of _ (by decide +kernel)) ggL_law_X2_ringed
set_option maxRecDepth 20000 in
theorem ggL_law_X3_ringed : GoodIn wsL_law wsX3_ringed := goodIn_r _ [444, 117, 435, 84, 445, 119, 120, 5, 121, 572, 573, 574, 575, 576, 577, 578, 579, 580, 581, 582, 583, 584, 585, 586, 587, 588, 589, 590, 591, 592, 593, 594, 595, 596, 597, 598, 599] (by decide +kernel) (by decide +kernel)
set_option maxRecDepth 20000 in
theorem gL_law_X3_ringed : GoodIn wsL_law (wsV RL 77 RX3 yX3_ringed wsX3_ringed) := goodIn_app (goodIn_of _ (by decide +kernel)) ggL_law_X3_ringed
set_option maxRecDepth 20000 in
theorem ggL_law_X2_drawer : GoodIn wsL_law wsX2_drawer := goodIn_r _ [449, 31, 30, 101, 102, 2, 103, 450, 451, 452, 453, 555, 556, 557, 558, 559, 560, 561, 562, 563, 564, 565, 566, 567, 568, 569, 570, 571] (by decide +kernel) (by decide +kernel)
set_option maxRecDepth 20000 in
theorem gL_law_X2_drawer : GoodIn wsL_law (wsV RL 78 RX2 yX2_drawer wsX2_drawer) := goodIn_app (goodIn_of _ (by decide +kernel)) ggL_law_X2_drawer
set_option maxRecDepth 20000 in
theorem ggL_law_X3_drawer : GoodIn wsL_law wsX3_drawer := goodIn_r _ [457, 117, 308, 85, 119, 120, 5, 121, 572, 573, 574, 575, 576, 577, 578, 579, 580, 581, 582, 583, 584, 585, 586, 587, 588, 589, 590, 591, 592, 593, 594, 595, 596, 597, 598, 599] (by decide +kernel) (by decide +kernel)
set_option maxRecDepth 20000 in
theorem gL_law_X3_drawer : GoodIn wsL_law (wsV RL 81 RX3 yX3_drawer wsX3_drawer) := goodIn_app (goodIn_of _ (by decide +kernel)) ggL_law_X3_drawer
set_option maxRecDepth 20000 in
theorem ggL_law_X2_parts : GoodIn wsL_law wsX2_parts := goodIn_r _ [461, 133, 134, 135, 2, 136, 16, 96, 462, 463, 464, 465, 466, 467, 468, 469, 31, 30, 35, 332, 333, 334, 15, 335, 42, 41, 555, 556, 557, 558, 559, 560, 561, 562, 563, 564, 565, 566, 567, 568, 569, 570, 571, 600, 601, 602, 603, 604, 605, 606, 607, 608, 609, 610, 611] (by decide +kernel) (by decide +kernel)
set_option maxRecDepth 20000 in
theorem gL_law_X2_parts : GoodIn wsL_law (wsV RL 82 RX2 yX2_parts wsX2_parts) := goodIn_app (goodIn_of _ (by decide +kernel)) ggL_law_X2_parts
set_option maxRecDepth 20000 in
theorem ggL_law_X3_parts : GoodIn wsL_law wsX3_parts := goodIn_r _ [473, 117, 145, 146, 147, 5, 148, 118, 119, 120, 121, 474, 475, 476, 477, 478, 479, 480, 481, 308, 85, 251, 252, 341, 342, 343, 344, 71, 70, 267, 268, 269, 270, 271, 272, 273, 274, 275, 276, 277, 572, 573, 574, 575, 576, 577, 578, 579, 580, 581, 582, 583, 584, 585, 586, 587, 588, 589, 590, 591, 592, 593, 594, 595, 596, 597, 598, 599] (by decide +kernel) (by decide +kernel)
set_option maxRecDepth 20000 in
theorem gL_law_X3_parts : GoodIn wsL_law (wsV RL 85 RX3 yX3_parts wsX3_parts) := goodIn_app (goodIn_of _ (by decide +kernel)) ggL_law_X3_parts
set_option maxRecDepth 20000 in
theorem ggL_law_X2_part : GoodIn wsL_law wsX2_part := goodIn_r _ [485, 35, 486, 459, 460, 2, 461, 133, 134, 135, 136, 16, 96, 462, 463, 464, 465, 466, 467, 468, 469, 31, 30, 332, 333, 334, 15, 335, 42, 41, 555, 556, 557, 558, 559, 560, 561, 562, 563, 564, 565, 566, 567, 568, 569, 570, 571, 600, 601, 602, 603, 604, 605, 606, 607, 608, 609, 610, 611] (by decide +kernel) (by decide +kernel)
set_option maxRecDepth 20000 in
theorem gL_law_X2_part : GoodIn wsL_law (wsV RL 86 RX2 yX2_part wsX2_part) := goodIn_app (goodIn_of _ (by decide +kernel)) ggL_law_X2_part
set_option maxRecDepth 20000 in
theorem ggL_law_X3_part : GoodIn wsL_law wsX3_part := goodIn_r _ [490, 117, 145, 146, 147, 5, 148, 118, 119, 120, 121, 474, 475, 476, 477, 478, 479, 480, 481, 308, 85, 251, 252, 341, 342, 343, 344, 71, 70, 267, 268, 269, 270, 271, 272, 273, 274, 275, 276, 277, 572, 573, 574, 575, 576, 577, 578, 579, 580, 581, 582, 583, 584, 585, 586, 587, 588, 589, 590, 591, 592, 593, 594, 595, 596, 597, 598, 599] (by decide +kernel) (by decide +kernel)
set_option maxRecDepth 20000 in
theorem gL_law_X3_part : GoodIn wsL_law (wsV RL 89 RX3 yX3_part wsX3_part) := goodIn_app (goodIn_of _ (by decide +kernel)) ggL_law_X3_part
set_option maxRecDepth 20000 in
theorem ggL_law_X2_measure : GoodIn wsL_law wsX2_measure := goodIn_r _ [494, 34, 32, 33, 462, 463, 2, 464, 465, 555, 556, 557, 558, 559, 560, 561, 562, 563, 564, 565, 566, 567, 568, 569, 570, 571] (by decide +kernel) (by decide +kernel)
set_option maxRecDepth 20000 in
theorem gL_law_X2_measure : GoodIn wsL_law (wsV RL 90 RX2 yX2_measure wsX2_measure) := goodIn_app (goodIn_of _ (by decide +kernel)) ggL_law_X2_measure
set_option maxRecDepth 20000 in
theorem ggL_law_X3_measure : GoodIn wsL_law wsX3_measure := goodIn_r _ [498, 117, 309, 86, 251, 87, 252, 474, 475, 5, 476, 477, 119, 120, 121, 267, 268, 269, 270, 271, 272, 273, 274, 275, 276, 277, 572, 573, 574, 575, 576, 577, 578, 579, 580, 581, 582, 583, 584, 585, 586, 587, 588, 589, 590, 591, 592, 593, 594, 595, 596, 597, 598, 599] (by decide +kernel) (by decide +kernel)
set_option maxRecDepth 20000 in
theorem gL_law_X3_measure : GoodIn wsL_law (wsV RL 93 RX3 yX3_measure wsX3_measure) := goodIn_app (goodIn_of _ (by decide +kernel)) ggL_law_X3_measure
set_option maxRecDepth 20000 in
theorem ggL_law_X2_forget : GoodIn wsL_law wsX2_forget := goodIn_r _ [502, 34, 555, 556, 557, 558, 559, 560, 561, 562, 563, 564, 565, 566, 567, 568, 569, 570, 571] (by decide +kernel) (by decide +kernel)
set_option maxRecDepth 20000 in
theorem gL_law_X2_forget : GoodIn wsL_law (wsV RL 94 RX2 yX2_forget wsX2_forget) := goodIn_app (goodIn_of _ (by decide +kernel)) ggL_law_X2_forget
set_option maxRecDepth 20000 in
theorem ggL_law_X3_forget : GoodIn wsL_law wsX3_forget := goodIn_r _ [506, 117, 309, 572, 573, 574, 575, 576, 577, 578, 579, 580, 581, 582, 583, 584, 585, 586, 587, 588, 589, 590, 591, 592, 593, 594, 595, 596, 597, 598, 599] (by decide +kernel) (by decide +kernel)
set_option maxRecDepth 20000 in
theorem gL_law_X3_forget : GoodIn wsL_law (wsV RL 97 RX3 yX3_forget wsX3_forget) := goodIn_app (goodIn_of _ (by decide +kernel)) ggL_law_X3_forget
set_option maxRecDepth 20000 in
theorem ggL_law_X2_faults : GoodIn wsL_law wsX2_faults := goodIn_r _ [510, 133, 134, 135, 2, 136, 16, 96, 511, 512, 513, 514, 31, 30, 36, 169, 170, 171, 15, 172, 43, 44, 515, 516, 517, 518, 34, 21, 236, 235, 108, 109, 110, 19, 111, 55, 56, 57, 112, 58, 60, 61, 185, 186, 187, 188, 189, 62, 63, 190, 191, 192, 193, 194, 195, 196, 65, 64, 197, 198, 199, 200, 201, 202, 203, 204, 205, 206, 207, 208, 209, 210, 211, 212, 213, 214, 215, 216, 217, 218, 219, 220, 221, 222, 223, 224, 225, 226, 227, 228, 229, 230, 237, 238, 239, 240, 241, 242, 519, 520, 521, 522, 33, 32, 409, 410, 411, 368, 369, 370, 371, 372, 373, 374, 412, 413, 414, 555, 556, 557, 558, 559, 560, 561, 562, 563, 564, 565, 566, 567, 568, 569, 570, 571, 600, 601, 602, 603, 604, 605, 606, 607, 608, 609, 610, 611, 612, 613, 614, 615, 616, 617, 618, 619, 620, 621] (by decide +kernel) (by decide +kernel)
set_option maxRecDepth 20000 in
theorem gL_law_X2_faults : GoodIn wsL_law (wsV RL 98 RX2 yX2_faults wsX2_faults) := goodIn_app (goodIn_of _ (by decide +kernel)) ggL_law_X2_faults
set_option maxRecDepth 20000 in
theorem ggL_law_X3_faults : GoodIn wsL_law wsX3_faults := goodIn_r _ [526, 117, 145, 146, 147, 5, 148, 118, 119, 120, 121, 527, 528, 529, 530, 308, 85, 531, 532, 533, 534, 72, 73, 535, 536, 537, 538, 309, 75, 77, 82, 253, 254, 251, 86, 252, 87, 256, 257, 258, 88, 89, 90, 91, 70, 247, 248, 249, 250, 76, 144, 255, 78, 79, 80, 81, 259, 260, 261, 262, 71, 263, 264, 265, 266, 267, 268, 269, 270, 271, 272, 273, 274, 275, 276, 277, 278, 279, 280, 281, 282, 283, 284, 285, 74, 286, 287, 288, 289, 290, 291, 292, 293, 572, 573, 574, 575, 576, 577, 578, 579, 580, 581, 582, 583, 584, 585, 586, 587, 588, 589, 590, 591, 592, 593, 594, 595, 596, 597, 598, 599] (by decide +kernel) (by decide +kernel)
set_option maxRecDepth 20000 in
theorem gL_law_X3_faults : GoodIn wsL_law (wsV RL 101 RX3 yX3_faults wsX3_faults) := goodIn_app (goodIn_of _ (by decide +kernel)) ggL_law_X3_faults
set_option maxRecDepth 20000 in
theorem ggL_law_X2_fault : GoodIn wsL_law wsX2_fault := goodIn_r _ [542, 36, 133, 134, 135, 2, 136, 16, 96, 511, 512, 513, 514, 31, 30, 169, 170, 171, 15, 172, 43, 44, 515, 516, 517, 518, 34, 21, 236, 235, 108, 109, 110, 19, 111, 55, 56, 57, 112, 58, 60, 61, 185, 186, 187, 188, 189, 62, 63, 190, 191, 192, 193, 194, 195, 196, 65, 64, 197, 198, 199, 200, 201, 202, 203, 204, 205, 206, 207, 208, 209, 210, 211, 212, 213, 214, 215, 216, 217, 218, 219, 220, 221, 222, 223, 224, 225, 226, 227, 228, 229, 230, 237, 238, 239, 240, 241, 242, 519, 520, 521, 522, 33, 32, 409, 410, 411, 368, 369, 370, 371, 372, 373, 374, 412, 413, 414, 555, 556, 557, 558, 559, 560, 561, 562, 563, 564, 565, 566, 567, 568, 569, 570, 571, 600, 601, 602, 603, 604, 605, 606, 607, 608, 609, 610, 611, 612, 613, 614, 615, 616, 617, 618, 619, 620, 621] (by decide +kernel) (by decide +kernel)
set_option maxRecDepth 20000 in
theorem gL_law_X2_fault : GoodIn wsL_law (wsV RL 102 RX2 yX2_fault wsX2_fault) := goodIn_app (goodIn_of _ (by decide +kernel)) ggL_law_X2_fault
set_option maxRecDepth 20000 in
theorem ggL_law_X3_fault : GoodIn wsL_law wsX3_fault := goodIn_r _ [546, 117, 145, 146, 147, 5, 148, 118, 119, 120, 121, 527, 528, 529, 530, 308, 85, 531, 532, 533, 534, 72, 73, 535, 536, 537, 538, 309, 75, 77, 82, 253, 254, 251, 86, 252, 87, 256, 257, 258, 88, 89, 90, 91, 70, 247, 248, 249, 250, 76, 144, 255, 78, 79, 80, 81, 259, 260, 261, 262, 71, 263, 264, 265, 266, 267, 268, 269, 270, 271, 272, 273, 274, 275, 276, 277, 278, 279, 280, 281, 282, 283, 284, 285, 74, 286, 287, 288, 289, 290, 291, 292, 293, 572, 573, 574, 575, 576, 577, 578, 579, 580, 581, 582, 583, 584, 585, 586, 587, 588, 589, 590, 591, 592, 593, 594, 595, 596, 597, 598, 599] (by decide +kernel) (by decide +kernel)
set_option maxRecDepth 20000 in
theorem gL_law_X3_fault : GoodIn wsL_law (wsV RL 105 RX3 yX3_fault wsX3_fault) := goodIn_app (goodIn_of _ (by decide +kernel)) ggL_law_X3_fault
set_option maxRecDepth 20000 in
theorem ggL_law_X2_fits : GoodIn wsL_law wsX2_fits := goodIn_r _ [550, 133, 134, 135, 2, 136, 16, 96, 515, 516, 517, 518, 34, 21, 236, 235, 108, 109, 110, 19, 111, 55, 56, 57, 112, 58, 60, 61, 185, 186, 187, 188, 189, 62, 63, 190, 191, 192, 193, 194, 195, 196, 65, 64, 197, 198, 199, 200, 201, 202, 203, 204, 205, 206, 207, 208, 209, 210, 211, 212, 213, 214, 215, 216, 217, 218, 219, 220, 221, 222, 223, 224, 225, 226, 227, 228, 229, 230, 237, 238, 239, 240, 241, 242, 519, 520, 521, 522, 33, 32, 409, 410, 411, 368, 369, 370, 371, 372, 373, 374, 412, 413, 414, 555, 556, 557, 558, 559, 560, 561, 562, 563, 564, 565, 566, 567, 568, 569, 570, 571, 600, 601, 602, 603, 604, 605, 606, 607, 608, 609, 610, 611, 612, 613, 614, 615, 616, 617, 618, 619, 620, 621] (by decide +kernel) (by decide +kernel)
set_option maxRecDepth 20000 in
theorem gL_law_X2_fits : GoodIn wsL_law (wsV RL 106 RX2 yX2_fits wsX2_fits) := goodIn_app (goodIn_of _ (by decide +kernel)) ggL_law_X2_fits
set_option maxRecDepth 20000 in
theorem ggL_law_X3_fits : GoodIn wsL_law wsX3_fits := goodIn_r _ [554, 117, 145, 146, 147, 5, 148, 118, 119, 120, 121, 535, 536, 537, 538, 309, 75, 77, 82, 253, 254, 251, 86, 252, 87, 256, 257, 258, 88, 89, 90, 91, 70, 247, 248, 249, 250, 76, 72, 73, 144, 255, 78, 79, 80, 81, 259, 260, 261, 262, 71, 263, 264, 265, 266, 267, 268, 269, 270, 271, 272, 273, 274, 275, 276, 277, 278, 279, 280, 281, 282, 283, 284, 285, 74, 286, 287, 288, 289, 290, 291, 292, 293, 572, 573, 574, 575, 576, 577, 578, 579, 580, 581, 582, 583, 584, 585, 586, 587, 588, 589, 590, 591, 592, 593, 594, 595, 596, 597, 598, 599] (by decide +kernel) (by decide +kernel)
set_option maxRecDepth 20000 in
theorem gL_law_X3_fits : GoodIn wsL_law (wsV RL 109 RX3 yX3_fits wsX3_fits) := goodIn_app (goodIn_of _ (by decide +kernel)) ggL_law_X3_fits
theorem dL_law_0 : decode cL_law 0 = .ok (.new 8, 3) := by decide +kernel
theorem dL_law_3 : decode cL_law 3 = .ok (.dup, 1) := by decide +kernel
theorem dL_law_4 : decode cL_law 4 = .ok (.invokespecial 15, 3) := by decide +kernel
theorem dL_law_7 : decode cL_law 7 = .ok (.astore_n 1, 1) := by decide +kernel
theorem dL_law_8 : decode cL_law 8 = .ok (.new 16, 3) := by decide +kernel
theorem dL_law_11 : decode cL_law 11 = .ok (.dup, 1) := by decide +kernel
theorem dL_law_12 : decode cL_law 12 = .ok (.invokespecial 18, 3) := by decide +kernel
theorem dL_law_15 : decode cL_law 15 = .ok (.astore_n 2, 1) := by decide +kernel
theorem dL_law_16 : decode cL_law 16 = .ok (.iconst 1, 1) := by decide +kernel
theorem dL_law_17 : decode cL_law 17 = .ok (.newarray .long, 2) := by decide +kernel
theorem dL_law_19 : decode cL_law 19 = .ok (.astore_n 3, 1) := by decide +kernel
theorem dL_law_20 : decode cL_law 20 = .ok (.iconst 0, 1) := by decide +kernel
theorem dL_law_21 : decode cL_law 21 = .ok (.istore 4, 2) := by decide +kernel
theorem dL_law_23 : decode cL_law 23 = .ok (.iload 4, 2) := by decide +kernel
theorem dL_law_25 : decode cL_law 25 = .ok (.aload_n 0, 1) := by decide +kernel
theorem dL_law_26 : decode cL_law 26 = .ok (.arraylength, 1) := by decide +kernel
theorem dL_law_27 : decode cL_law 27 = .ok (.bipush 7, 2) := by decide +kernel
theorem dL_law_29 : decode cL_law 29 = .ok (.isub, 1) := by decide +kernel
theorem dL_law_30 : decode cL_law 30 = .ok (.if_icmp .gt 838, 3) := by decide +kernel
theorem dL_law_33 : decode cL_law 33 = .ok (.aload_n 0, 1) := by decide +kernel
theorem dL_law_34 : decode cL_law 34 = .ok (.iload 4, 2) := by decide +kernel
theorem dL_law_36 : decode cL_law 36 = .ok (.iaload, 1) := by decide +kernel
theorem dL_law_37 : decode cL_law 37 = .ok (.bipush 31, 2) := by decide +kernel
theorem dL_law_39 : decode cL_law 39 = .ok (.iand, 1) := by decide +kernel
theorem dL_law_40 : decode cL_law 40 = .ok (.tableswitch 822 0 19 #[96, 157, 244, 257, 270, 319, 344, 369, 437, 462, 499, 524, 550, 575, 624, 685, 722, 735, 760, 797], 96) := by decide +kernel
theorem dL_law_136 : decode cL_law 136 = .ok (.aload_n 1, 1) := by decide +kernel
theorem dL_law_137 : decode cL_law 137 = .ok (.aload_n 0, 1) := by decide +kernel
theorem dL_law_138 : decode cL_law 138 = .ok (.iload 4, 2) := by decide +kernel
theorem dL_law_140 : decode cL_law 140 = .ok (.iconst 1, 1) := by decide +kernel
theorem dL_law_141 : decode cL_law 141 = .ok (.iadd, 1) := by decide +kernel
theorem dL_law_142 : decode cL_law 142 = .ok (.iaload, 1) := by decide +kernel
theorem dL_law_143 : decode cL_law 143 = .ok (.aload_n 0, 1) := by decide +kernel
theorem dL_law_144 : decode cL_law 144 = .ok (.iload 4, 2) := by decide +kernel
theorem dL_law_146 : decode cL_law 146 = .ok (.iconst 2, 1) := by decide +kernel
theorem dL_law_147 : decode cL_law 147 = .ok (.iadd, 1) := by decide +kernel
theorem dL_law_148 : decode cL_law 148 = .ok (.iaload, 1) := by decide +kernel
theorem dL_law_149 : decode cL_law 149 = .ok (.aload_n 0, 1) := by decide +kernel
theorem dL_law_150 : decode cL_law 150 = .ok (.iload 4, 2) := by decide +kernel
theorem dL_law_152 : decode cL_law 152 = .ok (.iconst 3, 1) := by decide +kernel
theorem dL_law_153 : decode cL_law 153 = .ok (.iadd, 1) := by decide +kernel
theorem dL_law_154 : decode cL_law 154 = .ok (.iaload, 1) := by decide +kernel
theorem dL_law_155 : decode cL_law 155 = .ok (.aload_n 0, 1) := by decide +kernel
theorem dL_law_156 : decode cL_law 156 = .ok (.iload 4, 2) := by decide +kernel
theorem dL_law_158 : decode cL_law 158 = .ok (.iconst 4, 1) := by decide +kernel
theorem dL_law_159 : decode cL_law 159 = .ok (.iadd, 1) := by decide +kernel
theorem dL_law_160 : decode cL_law 160 = .ok (.iaload, 1) := by decide +kernel
theorem dL_law_161 : decode cL_law 161 = .ok (.invokevirtual 19, 3) := by decide +kernel
theorem dL_law_164 : decode cL_law 164 = .ok (.aload_n 2, 1) := by decide +kernel
theorem dL_law_165 : decode cL_law 165 = .ok (.aload_n 0, 1) := by decide +kernel
theorem dL_law_166 : decode cL_law 166 = .ok (.iload 4, 2) := by decide +kernel
theorem dL_law_168 : decode cL_law 168 = .ok (.iconst 1, 1) := by decide +kernel
theorem dL_law_169 : decode cL_law 169 = .ok (.iadd, 1) := by decide +kernel
theorem dL_law_170 : decode cL_law 170 = .ok (.iaload, 1) := by decide +kernel
theorem dL_law_171 : decode cL_law 171 = .ok (.aload_n 0, 1) := by decide +kernel
theorem dL_law_172 : decode cL_law 172 = .ok (.iload 4, 2) := by decide +kernel
theorem dL_law_174 : decode cL_law 174 = .ok (.iconst 2, 1) := by decide +kernel
theorem dL_law_175 : decode cL_law 175 = .ok (.iadd, 1) := by decide +kernel
theorem dL_law_176 : decode cL_law 176 = .ok (.iaload, 1) := by decide +kernel
theorem dL_law_177 : decode cL_law 177 = .ok (.aload_n 0, 1) := by decide +kernel
theorem dL_law_178 : decode cL_law 178 = .ok (.iload 4, 2) := by decide +kernel
theorem dL_law_180 : decode cL_law 180 = .ok (.iconst 3, 1) := by decide +kernel
theorem dL_law_181 : decode cL_law 181 = .ok (.iadd, 1) := by decide +kernel
theorem dL_law_182 : decode cL_law 182 = .ok (.iaload, 1) := by decide +kernel
theorem dL_law_183 : decode cL_law 183 = .ok (.aload_n 0, 1) := by decide +kernel
theorem dL_law_184 : decode cL_law 184 = .ok (.iload 4, 2) := by decide +kernel
theorem dL_law_186 : decode cL_law 186 = .ok (.iconst 4, 1) := by decide +kernel
theorem dL_law_187 : decode cL_law 187 = .ok (.iadd, 1) := by decide +kernel
theorem dL_law_188 : decode cL_law 188 = .ok (.iaload, 1) := by decide +kernel
theorem dL_law_189 : decode cL_law 189 = .ok (.invokevirtual 23, 3) := by decide +kernel
theorem dL_law_192 : decode cL_law 192 = .ok (.if_icmp .eq 670, 3) := by decide +kernel
theorem dL_law_195 : decode cL_law 195 = .ok (.iconst 0, 1) := by decide +kernel
theorem dL_law_196 : decode cL_law 196 = .ok (.ireturn, 1) := by decide +kernel
theorem dL_law_197 : decode cL_law 197 = .ok (.aload_n 1, 1) := by decide +kernel
theorem dL_law_198 : decode cL_law 198 = .ok (.aload_n 0, 1) := by decide +kernel
theorem dL_law_199 : decode cL_law 199 = .ok (.iload 4, 2) := by decide +kernel
theorem dL_law_201 : decode cL_law 201 = .ok (.iconst 1, 1) := by decide +kernel
theorem dL_law_202 : decode cL_law 202 = .ok (.iadd, 1) := by decide +kernel
theorem dL_law_203 : decode cL_law 203 = .ok (.iaload, 1) := by decide +kernel
theorem dL_law_204 : decode cL_law 204 = .ok (.aload_n 0, 1) := by decide +kernel
theorem dL_law_205 : decode cL_law 205 = .ok (.iload 4, 2) := by decide +kernel
theorem dL_law_207 : decode cL_law 207 = .ok (.iconst 2, 1) := by decide +kernel
theorem dL_law_208 : decode cL_law 208 = .ok (.iadd, 1) := by decide +kernel
theorem dL_law_209 : decode cL_law 209 = .ok (.iaload, 1) := by decide +kernel
theorem dL_law_210 : decode cL_law 210 = .ok (.aload_n 0, 1) := by decide +kernel
theorem dL_law_211 : decode cL_law 211 = .ok (.iload 4, 2) := by decide +kernel
theorem dL_law_213 : decode cL_law 213 = .ok (.iconst 3, 1) := by decide +kernel
theorem dL_law_214 : decode cL_law 214 = .ok (.iadd, 1) := by decide +kernel
theorem dL_law_215 : decode cL_law 215 = .ok (.iaload, 1) := by decide +kernel
theorem dL_law_216 : decode cL_law 216 = .ok (.aload_n 0, 1) := by decide +kernel
theorem dL_law_217 : decode cL_law 217 = .ok (.iload 4, 2) := by decide +kernel
theorem dL_law_219 : decode cL_law 219 = .ok (.iconst 4, 1) := by decide +kernel
theorem dL_law_220 : decode cL_law 220 = .ok (.iadd, 1) := by decide +kernel
theorem dL_law_221 : decode cL_law 221 = .ok (.iaload, 1) := by decide +kernel
theorem dL_law_222 : decode cL_law 222 = .ok (.aload_n 0, 1) := by decide +kernel
theorem dL_law_223 : decode cL_law 223 = .ok (.iload 4, 2) := by decide +kernel
theorem dL_law_225 : decode cL_law 225 = .ok (.iconst 5, 1) := by decide +kernel
theorem dL_law_226 : decode cL_law 226 = .ok (.iadd, 1) := by decide +kernel
theorem dL_law_227 : decode cL_law 227 = .ok (.iaload, 1) := by decide +kernel
theorem dL_law_228 : decode cL_law 228 = .ok (.aload_n 0, 1) := by decide +kernel
theorem dL_law_229 : decode cL_law 229 = .ok (.iload 4, 2) := by decide +kernel
theorem dL_law_231 : decode cL_law 231 = .ok (.bipush 6, 2) := by decide +kernel
theorem dL_law_233 : decode cL_law 233 = .ok (.iadd, 1) := by decide +kernel
theorem dL_law_234 : decode cL_law 234 = .ok (.iaload, 1) := by decide +kernel
theorem dL_law_235 : decode cL_law 235 = .ok (.invokevirtual 24, 3) := by decide +kernel
theorem dL_law_238 : decode cL_law 238 = .ok (.aload_n 2, 1) := by decide +kernel
theorem dL_law_239 : decode cL_law 239 = .ok (.aload_n 0, 1) := by decide +kernel
theorem dL_law_240 : decode cL_law 240 = .ok (.iload 4, 2) := by decide +kernel
theorem dL_law_242 : decode cL_law 242 = .ok (.iconst 1, 1) := by decide +kernel
theorem dL_law_243 : decode cL_law 243 = .ok (.iadd, 1) := by decide +kernel
theorem dL_law_244 : decode cL_law 244 = .ok (.iaload, 1) := by decide +kernel
theorem dL_law_245 : decode cL_law 245 = .ok (.aload_n 0, 1) := by decide +kernel
theorem dL_law_246 : decode cL_law 246 = .ok (.iload 4, 2) := by decide +kernel
theorem dL_law_248 : decode cL_law 248 = .ok (.iconst 2, 1) := by decide +kernel
theorem dL_law_249 : decode cL_law 249 = .ok (.iadd, 1) := by decide +kernel
theorem dL_law_250 : decode cL_law 250 = .ok (.iaload, 1) := by decide +kernel
theorem dL_law_251 : decode cL_law 251 = .ok (.aload_n 0, 1) := by decide +kernel
theorem dL_law_252 : decode cL_law 252 = .ok (.iload 4, 2) := by decide +kernel
theorem dL_law_254 : decode cL_law 254 = .ok (.iconst 3, 1) := by decide +kernel
theorem dL_law_255 : decode cL_law 255 = .ok (.iadd, 1) := by decide +kernel
theorem dL_law_256 : decode cL_law 256 = .ok (.iaload, 1) := by decide +kernel
theorem dL_law_257 : decode cL_law 257 = .ok (.aload_n 0, 1) := by decide +kernel
theorem dL_law_258 : decode cL_law 258 = .ok (.iload 4, 2) := by decide +kernel
theorem dL_law_260 : decode cL_law 260 = .ok (.iconst 4, 1) := by decide +kernel
theorem dL_law_261 : decode cL_law 261 = .ok (.iadd, 1) := by decide +kernel
theorem dL_law_262 : decode cL_law 262 = .ok (.iaload, 1) := by decide +kernel
theorem dL_law_263 : decode cL_law 263 = .ok (.aload_n 0, 1) := by decide +kernel
theorem dL_law_264 : decode cL_law 264 = .ok (.iload 4, 2) := by decide +kernel
theorem dL_law_266 : decode cL_law 266 = .ok (.iconst 5, 1) := by decide +kernel
theorem dL_law_267 : decode cL_law 267 = .ok (.iadd, 1) := by decide +kernel
theorem dL_law_268 : decode cL_law 268 = .ok (.iaload, 1) := by decide +kernel
theorem dL_law_269 : decode cL_law 269 = .ok (.aload_n 0, 1) := by decide +kernel
theorem dL_law_270 : decode cL_law 270 = .ok (.iload 4, 2) := by decide +kernel
theorem dL_law_272 : decode cL_law 272 = .ok (.bipush 6, 2) := by decide +kernel
theorem dL_law_274 : decode cL_law 274 = .ok (.iadd, 1) := by decide +kernel
theorem dL_law_275 : decode cL_law 275 = .ok (.iaload, 1) := by decide +kernel
theorem dL_law_276 : decode cL_law 276 = .ok (.invokevirtual 28, 3) := by decide +kernel
theorem dL_law_279 : decode cL_law 279 = .ok (.if_icmp .eq 583, 3) := by decide +kernel
theorem dL_law_282 : decode cL_law 282 = .ok (.iconst 0, 1) := by decide +kernel
theorem dL_law_283 : decode cL_law 283 = .ok (.ireturn, 1) := by decide +kernel
theorem dL_law_284 : decode cL_law 284 = .ok (.aload_n 1, 1) := by decide +kernel
theorem dL_law_285 : decode cL_law 285 = .ok (.invokevirtual 29, 3) := by decide +kernel
theorem dL_law_288 : decode cL_law 288 = .ok (.aload_n 2, 1) := by decide +kernel
theorem dL_law_289 : decode cL_law 289 = .ok (.invokevirtual 33, 3) := by decide +kernel
theorem dL_law_292 : decode cL_law 292 = .ok (.if_icmp .eq 570, 3) := by decide +kernel
theorem dL_law_295 : decode cL_law 295 = .ok (.iconst 0, 1) := by decide +kernel
theorem dL_law_296 : decode cL_law 296 = .ok (.ireturn, 1) := by decide +kernel
theorem dL_law_297 : decode cL_law 297 = .ok (.aload_n 1, 1) := by decide +kernel
theorem dL_law_298 : decode cL_law 298 = .ok (.invokevirtual 34, 3) := by decide +kernel
theorem dL_law_301 : decode cL_law 301 = .ok (.aload_n 2, 1) := by decide +kernel
theorem dL_law_302 : decode cL_law 302 = .ok (.invokevirtual 37, 3) := by decide +kernel
theorem dL_law_305 : decode cL_law 305 = .ok (.if_icmp .eq 557, 3) := by decide +kernel
theorem dL_law_308 : decode cL_law 308 = .ok (.iconst 0, 1) := by decide +kernel
theorem dL_law_309 : decode cL_law 309 = .ok (.ireturn, 1) := by decide +kernel
theorem dL_law_310 : decode cL_law 310 = .ok (.aload_n 1, 1) := by decide +kernel
theorem dL_law_311 : decode cL_law 311 = .ok (.aload_n 0, 1) := by decide +kernel
theorem dL_law_312 : decode cL_law 312 = .ok (.iload 4, 2) := by decide +kernel
theorem dL_law_314 : decode cL_law 314 = .ok (.iconst 1, 1) := by decide +kernel
theorem dL_law_315 : decode cL_law 315 = .ok (.iadd, 1) := by decide +kernel
theorem dL_law_316 : decode cL_law 316 = .ok (.iaload, 1) := by decide +kernel
theorem dL_law_317 : decode cL_law 317 = .ok (.aload_n 0, 1) := by decide +kernel
theorem dL_law_318 : decode cL_law 318 = .ok (.iload 4, 2) := by decide +kernel
theorem dL_law_320 : decode cL_law 320 = .ok (.iconst 2, 1) := by decide +kernel
theorem dL_law_321 : decode cL_law 321 = .ok (.iadd, 1) := by decide +kernel
theorem dL_law_322 : decode cL_law 322 = .ok (.iaload, 1) := by decide +kernel
theorem dL_law_323 : decode cL_law 323 = .ok (.aload_n 0, 1) := by decide +kernel
theorem dL_law_324 : decode cL_law 324 = .ok (.iload 4, 2) := by decide +kernel
theorem dL_law_326 : decode cL_law 326 = .ok (.iconst 3, 1) := by decide +kernel
theorem dL_law_327 : decode cL_law 327 = .ok (.iadd, 1) := by decide +kernel
theorem dL_law_328 : decode cL_law 328 = .ok (.iaload, 1) := by decide +kernel
theorem dL_law_329 : decode cL_law 329 = .ok (.invokevirtual 38, 3) := by decide +kernel
theorem dL_law_332 : decode cL_law 332 = .ok (.aload_n 2, 1) := by decide +kernel
theorem dL_law_333 : decode cL_law 333 = .ok (.aload_n 0, 1) := by decide +kernel
theorem dL_law_334 : decode cL_law 334 = .ok (.iload 4, 2) := by decide +kernel
theorem dL_law_336 : decode cL_law 336 = .ok (.iconst 1, 1) := by decide +kernel
theorem dL_law_337 : decode cL_law 337 = .ok (.iadd, 1) := by decide +kernel
theorem dL_law_338 : decode cL_law 338 = .ok (.iaload, 1) := by decide +kernel
theorem dL_law_339 : decode cL_law 339 = .ok (.aload_n 0, 1) := by decide +kernel
theorem dL_law_340 : decode cL_law 340 = .ok (.iload 4, 2) := by decide +kernel
theorem dL_law_342 : decode cL_law 342 = .ok (.iconst 2, 1) := by decide +kernel
theorem dL_law_343 : decode cL_law 343 = .ok (.iadd, 1) := by decide +kernel
theorem dL_law_344 : decode cL_law 344 = .ok (.iaload, 1) := by decide +kernel
theorem dL_law_345 : decode cL_law 345 = .ok (.aload_n 0, 1) := by decide +kernel
theorem dL_law_346 : decode cL_law 346 = .ok (.iload 4, 2) := by decide +kernel
theorem dL_law_348 : decode cL_law 348 = .ok (.iconst 3, 1) := by decide +kernel
theorem dL_law_349 : decode cL_law 349 = .ok (.iadd, 1) := by decide +kernel
theorem dL_law_350 : decode cL_law 350 = .ok (.iaload, 1) := by decide +kernel
theorem dL_law_351 : decode cL_law 351 = .ok (.invokevirtual 42, 3) := by decide +kernel
theorem dL_law_354 : decode cL_law 354 = .ok (.if_icmp .eq 508, 3) := by decide +kernel
theorem dL_law_357 : decode cL_law 357 = .ok (.iconst 0, 1) := by decide +kernel
theorem dL_law_358 : decode cL_law 358 = .ok (.ireturn, 1) := by decide +kernel
theorem dL_law_359 : decode cL_law 359 = .ok (.aload_n 1, 1) := by decide +kernel
theorem dL_law_360 : decode cL_law 360 = .ok (.aload_n 0, 1) := by decide +kernel
theorem dL_law_361 : decode cL_law 361 = .ok (.iload 4, 2) := by decide +kernel
theorem dL_law_363 : decode cL_law 363 = .ok (.iconst 1, 1) := by decide +kernel
theorem dL_law_364 : decode cL_law 364 = .ok (.iadd, 1) := by decide +kernel
theorem dL_law_365 : decode cL_law 365 = .ok (.iaload, 1) := by decide +kernel
theorem dL_law_366 : decode cL_law 366 = .ok (.invokevirtual 43, 3) := by decide +kernel
theorem dL_law_369 : decode cL_law 369 = .ok (.aload_n 2, 1) := by decide +kernel
theorem dL_law_370 : decode cL_law 370 = .ok (.aload_n 0, 1) := by decide +kernel
theorem dL_law_371 : decode cL_law 371 = .ok (.iload 4, 2) := by decide +kernel
theorem dL_law_373 : decode cL_law 373 = .ok (.iconst 1, 1) := by decide +kernel
theorem dL_law_374 : decode cL_law 374 = .ok (.iadd, 1) := by decide +kernel
theorem dL_law_375 : decode cL_law 375 = .ok (.iaload, 1) := by decide +kernel
theorem dL_law_376 : decode cL_law 376 = .ok (.invokevirtual 47, 3) := by decide +kernel
theorem dL_law_379 : decode cL_law 379 = .ok (.if_icmp .eq 483, 3) := by decide +kernel
theorem dL_law_382 : decode cL_law 382 = .ok (.iconst 0, 1) := by decide +kernel
theorem dL_law_383 : decode cL_law 383 = .ok (.ireturn, 1) := by decide +kernel
theorem dL_law_384 : decode cL_law 384 = .ok (.aload_n 1, 1) := by decide +kernel
theorem dL_law_385 : decode cL_law 385 = .ok (.aload_n 0, 1) := by decide +kernel
theorem dL_law_386 : decode cL_law 386 = .ok (.iload 4, 2) := by decide +kernel
theorem dL_law_388 : decode cL_law 388 = .ok (.iconst 1, 1) := by decide +kernel
theorem dL_law_389 : decode cL_law 389 = .ok (.iadd, 1) := by decide +kernel
theorem dL_law_390 : decode cL_law 390 = .ok (.iaload, 1) := by decide +kernel
theorem dL_law_391 : decode cL_law 391 = .ok (.invokevirtual 48, 3) := by decide +kernel
theorem dL_law_394 : decode cL_law 394 = .ok (.aload_n 2, 1) := by decide +kernel
theorem dL_law_395 : decode cL_law 395 = .ok (.aload_n 0, 1) := by decide +kernel
theorem dL_law_396 : decode cL_law 396 = .ok (.iload 4, 2) := by decide +kernel
theorem dL_law_398 : decode cL_law 398 = .ok (.iconst 1, 1) := by decide +kernel
theorem dL_law_399 : decode cL_law 399 = .ok (.iadd, 1) := by decide +kernel
theorem dL_law_400 : decode cL_law 400 = .ok (.iaload, 1) := by decide +kernel
theorem dL_law_401 : decode cL_law 401 = .ok (.invokevirtual 51, 3) := by decide +kernel
theorem dL_law_404 : decode cL_law 404 = .ok (.if_icmp .eq 458, 3) := by decide +kernel
theorem dL_law_407 : decode cL_law 407 = .ok (.iconst 0, 1) := by decide +kernel
theorem dL_law_408 : decode cL_law 408 = .ok (.ireturn, 1) := by decide +kernel
theorem dL_law_409 : decode cL_law 409 = .ok (.aload_n 1, 1) := by decide +kernel
theorem dL_law_410 : decode cL_law 410 = .ok (.aload_n 0, 1) := by decide +kernel
theorem dL_law_411 : decode cL_law 411 = .ok (.iload 4, 2) := by decide +kernel
theorem dL_law_413 : decode cL_law 413 = .ok (.iconst 1, 1) := by decide +kernel
theorem dL_law_414 : decode cL_law 414 = .ok (.iadd, 1) := by decide +kernel
theorem dL_law_415 : decode cL_law 415 = .ok (.iaload, 1) := by decide +kernel
theorem dL_law_416 : decode cL_law 416 = .ok (.aload_n 0, 1) := by decide +kernel
theorem dL_law_417 : decode cL_law 417 = .ok (.iload 4, 2) := by decide +kernel
theorem dL_law_419 : decode cL_law 419 = .ok (.iconst 2, 1) := by decide +kernel
theorem dL_law_420 : decode cL_law 420 = .ok (.iadd, 1) := by decide +kernel
theorem dL_law_421 : decode cL_law 421 = .ok (.iaload, 1) := by decide +kernel
theorem dL_law_422 : decode cL_law 422 = .ok (.aload_n 3, 1) := by decide +kernel
theorem dL_law_423 : decode cL_law 423 = .ok (.invokestatic 52, 3) := by decide +kernel
theorem dL_law_426 : decode cL_law 426 = .ok (.istore 5, 2) := by decide +kernel
theorem dL_law_428 : decode cL_law 428 = .ok (.aload_n 2, 1) := by decide +kernel
theorem dL_law_429 : decode cL_law 429 = .ok (.aload_n 0, 1) := by decide +kernel
theorem dL_law_430 : decode cL_law 430 = .ok (.iload 4, 2) := by decide +kernel
theorem dL_law_432 : decode cL_law 432 = .ok (.iconst 1, 1) := by decide +kernel
theorem dL_law_433 : decode cL_law 433 = .ok (.iadd, 1) := by decide +kernel
theorem dL_law_434 : decode cL_law 434 = .ok (.iaload, 1) := by decide +kernel
theorem dL_law_435 : decode cL_law 435 = .ok (.aload_n 0, 1) := by decide +kernel
theorem dL_law_436 : decode cL_law 436 = .ok (.iload 4, 2) := by decide +kernel
theorem dL_law_438 : decode cL_law 438 = .ok (.iconst 2, 1) := by decide +kernel
theorem dL_law_439 : decode cL_law 439 = .ok (.iadd, 1) := by decide +kernel
theorem dL_law_440 : decode cL_law 440 = .ok (.iaload, 1) := by decide +kernel
theorem dL_law_441 : decode cL_law 441 = .ok (.invokevirtual 57, 3) := by decide +kernel
theorem dL_law_444 : decode cL_law 444 = .ok (.istore 6, 2) := by decide +kernel
theorem dL_law_446 : decode cL_law 446 = .ok (.aload_n 2, 1) := by decide +kernel
theorem dL_law_447 : decode cL_law 447 = .ok (.invokevirtual 58, 3) := by decide +kernel
theorem dL_law_450 : decode cL_law 450 = .ok (.iload 5, 2) := by decide +kernel
theorem dL_law_452 : decode cL_law 452 = .ok (.if_icmp .eq 5, 3) := by decide +kernel
theorem dL_law_455 : decode cL_law 455 = .ok (.iconst 0, 1) := by decide +kernel
theorem dL_law_456 : decode cL_law 456 = .ok (.ireturn, 1) := by decide +kernel
theorem dL_law_457 : decode cL_law 457 = .ok (.iload 5, 2) := by decide +kernel
theorem dL_law_459 : decode cL_law 459 = .ok (.ifCond .ne 15, 3) := by decide +kernel
theorem dL_law_462 : decode cL_law 462 = .ok (.aload_n 3, 1) := by decide +kernel
theorem dL_law_463 : decode cL_law 463 = .ok (.iconst 0, 1) := by decide +kernel
theorem dL_law_464 : decode cL_law 464 = .ok (.laload, 1) := by decide +kernel
theorem dL_law_465 : decode cL_law 465 = .ok (.iload 6, 2) := by decide +kernel
theorem dL_law_467 : decode cL_law 467 = .ok (.i2l, 1) := by decide +kernel
theorem dL_law_468 : decode cL_law 468 = .ok (.lcmp, 1) := by decide +kernel
theorem dL_law_469 : decode cL_law 469 = .ok (.ifCond .eq 5, 3) := by decide +kernel
theorem dL_law_472 : decode cL_law 472 = .ok (.iconst 0, 1) := by decide +kernel
theorem dL_law_473 : decode cL_law 473 = .ok (.ireturn, 1) := by decide +kernel
theorem dL_law_474 : decode cL_law 474 = .ok (.goto 388, 3) := by decide +kernel
theorem dL_law_477 : decode cL_law 477 = .ok (.aload_n 1, 1) := by decide +kernel
theorem dL_law_478 : decode cL_law 478 = .ok (.aload_n 0, 1) := by decide +kernel
theorem dL_law_479 : decode cL_law 479 = .ok (.iload 4, 2) := by decide +kernel
theorem dL_law_481 : decode cL_law 481 = .ok (.iconst 1, 1) := by decide +kernel
theorem dL_law_482 : decode cL_law 482 = .ok (.iadd, 1) := by decide +kernel
theorem dL_law_483 : decode cL_law 483 = .ok (.iaload, 1) := by decide +kernel
theorem dL_law_484 : decode cL_law 484 = .ok (.invokevirtual 61, 3) := by decide +kernel
theorem dL_law_487 : decode cL_law 487 = .ok (.aload_n 2, 1) := by decide +kernel
theorem dL_law_488 : decode cL_law 488 = .ok (.aload_n 0, 1) := by decide +kernel
theorem dL_law_489 : decode cL_law 489 = .ok (.iload 4, 2) := by decide +kernel
theorem dL_law_491 : decode cL_law 491 = .ok (.iconst 1, 1) := by decide +kernel
theorem dL_law_492 : decode cL_law 492 = .ok (.iadd, 1) := by decide +kernel
theorem dL_law_493 : decode cL_law 493 = .ok (.iaload, 1) := by decide +kernel
theorem dL_law_494 : decode cL_law 494 = .ok (.invokevirtual 64, 3) := by decide +kernel
theorem dL_law_497 : decode cL_law 497 = .ok (.if_icmp .eq 365, 3) := by decide +kernel
theorem dL_law_500 : decode cL_law 500 = .ok (.iconst 0, 1) := by decide +kernel
theorem dL_law_501 : decode cL_law 501 = .ok (.ireturn, 1) := by decide +kernel
theorem dL_law_502 : decode cL_law 502 = .ok (.aload_n 1, 1) := by decide +kernel
theorem dL_law_503 : decode cL_law 503 = .ok (.aload_n 0, 1) := by decide +kernel
theorem dL_law_504 : decode cL_law 504 = .ok (.iload 4, 2) := by decide +kernel
theorem dL_law_506 : decode cL_law 506 = .ok (.iconst 1, 1) := by decide +kernel
theorem dL_law_507 : decode cL_law 507 = .ok (.iadd, 1) := by decide +kernel
theorem dL_law_508 : decode cL_law 508 = .ok (.iaload, 1) := by decide +kernel
theorem dL_law_509 : decode cL_law 509 = .ok (.aload_n 0, 1) := by decide +kernel
theorem dL_law_510 : decode cL_law 510 = .ok (.iload 4, 2) := by decide +kernel
theorem dL_law_512 : decode cL_law 512 = .ok (.iconst 2, 1) := by decide +kernel
theorem dL_law_513 : decode cL_law 513 = .ok (.iadd, 1) := by decide +kernel
theorem dL_law_514 : decode cL_law 514 = .ok (.iaload, 1) := by decide +kernel
theorem dL_law_515 : decode cL_law 515 = .ok (.invokevirtual 65, 3) := by decide +kernel
theorem dL_law_518 : decode cL_law 518 = .ok (.aload_n 2, 1) := by decide +kernel
theorem dL_law_519 : decode cL_law 519 = .ok (.aload_n 0, 1) := by decide +kernel
theorem dL_law_520 : decode cL_law 520 = .ok (.iload 4, 2) := by decide +kernel
theorem dL_law_522 : decode cL_law 522 = .ok (.iconst 1, 1) := by decide +kernel
theorem dL_law_523 : decode cL_law 523 = .ok (.iadd, 1) := by decide +kernel
theorem dL_law_524 : decode cL_law 524 = .ok (.iaload, 1) := by decide +kernel
theorem dL_law_525 : decode cL_law 525 = .ok (.aload_n 0, 1) := by decide +kernel
theorem dL_law_526 : decode cL_law 526 = .ok (.iload 4, 2) := by decide +kernel
theorem dL_law_528 : decode cL_law 528 = .ok (.iconst 2, 1) := by decide +kernel
theorem dL_law_529 : decode cL_law 529 = .ok (.iadd, 1) := by decide +kernel
theorem dL_law_530 : decode cL_law 530 = .ok (.iaload, 1) := by decide +kernel
theorem dL_law_531 : decode cL_law 531 = .ok (.invokevirtual 68, 3) := by decide +kernel
theorem dL_law_534 : decode cL_law 534 = .ok (.if_icmp .eq 328, 3) := by decide +kernel
theorem dL_law_537 : decode cL_law 537 = .ok (.iconst 0, 1) := by decide +kernel
theorem dL_law_538 : decode cL_law 538 = .ok (.ireturn, 1) := by decide +kernel
theorem dL_law_539 : decode cL_law 539 = .ok (.aload_n 1, 1) := by decide +kernel
theorem dL_law_540 : decode cL_law 540 = .ok (.aload_n 0, 1) := by decide +kernel
theorem dL_law_541 : decode cL_law 541 = .ok (.iload 4, 2) := by decide +kernel
theorem dL_law_543 : decode cL_law 543 = .ok (.iconst 1, 1) := by decide +kernel
theorem dL_law_544 : decode cL_law 544 = .ok (.iadd, 1) := by decide +kernel
theorem dL_law_545 : decode cL_law 545 = .ok (.iaload, 1) := by decide +kernel
theorem dL_law_546 : decode cL_law 546 = .ok (.invokevirtual 69, 3) := by decide +kernel
theorem dL_law_549 : decode cL_law 549 = .ok (.aload_n 2, 1) := by decide +kernel
theorem dL_law_550 : decode cL_law 550 = .ok (.aload_n 0, 1) := by decide +kernel
theorem dL_law_551 : decode cL_law 551 = .ok (.iload 4, 2) := by decide +kernel
theorem dL_law_553 : decode cL_law 553 = .ok (.iconst 1, 1) := by decide +kernel
theorem dL_law_554 : decode cL_law 554 = .ok (.iadd, 1) := by decide +kernel
theorem dL_law_555 : decode cL_law 555 = .ok (.iaload, 1) := by decide +kernel
theorem dL_law_556 : decode cL_law 556 = .ok (.invokevirtual 72, 3) := by decide +kernel
theorem dL_law_559 : decode cL_law 559 = .ok (.if_icmp .eq 303, 3) := by decide +kernel
theorem dL_law_562 : decode cL_law 562 = .ok (.iconst 0, 1) := by decide +kernel
theorem dL_law_563 : decode cL_law 563 = .ok (.ireturn, 1) := by decide +kernel
theorem dL_law_564 : decode cL_law 564 = .ok (.aload_n 1, 1) := by decide +kernel
theorem dL_law_565 : decode cL_law 565 = .ok (.aload_n 0, 1) := by decide +kernel
theorem dL_law_566 : decode cL_law 566 = .ok (.iload 4, 2) := by decide +kernel
theorem dL_law_568 : decode cL_law 568 = .ok (.iconst 1, 1) := by decide +kernel
theorem dL_law_569 : decode cL_law 569 = .ok (.iadd, 1) := by decide +kernel
theorem dL_law_570 : decode cL_law 570 = .ok (.iaload, 1) := by decide +kernel
theorem dL_law_571 : decode cL_law 571 = .ok (.invokevirtual 73, 3) := by decide +kernel
theorem dL_law_574 : decode cL_law 574 = .ok (.aload_n 2, 1) := by decide +kernel
theorem dL_law_575 : decode cL_law 575 = .ok (.aload_n 0, 1) := by decide +kernel
theorem dL_law_576 : decode cL_law 576 = .ok (.iload 4, 2) := by decide +kernel
theorem dL_law_578 : decode cL_law 578 = .ok (.iconst 1, 1) := by decide +kernel
theorem dL_law_579 : decode cL_law 579 = .ok (.iadd, 1) := by decide +kernel
theorem dL_law_580 : decode cL_law 580 = .ok (.iaload, 1) := by decide +kernel
theorem dL_law_581 : decode cL_law 581 = .ok (.invokevirtual 77, 3) := by decide +kernel
theorem dL_law_584 : decode cL_law 584 = .ok (.lcmp, 1) := by decide +kernel
theorem dL_law_585 : decode cL_law 585 = .ok (.ifCond .eq 277, 3) := by decide +kernel
theorem dL_law_588 : decode cL_law 588 = .ok (.iconst 0, 1) := by decide +kernel
theorem dL_law_589 : decode cL_law 589 = .ok (.ireturn, 1) := by decide +kernel
theorem dL_law_590 : decode cL_law 590 = .ok (.aload_n 1, 1) := by decide +kernel
theorem dL_law_591 : decode cL_law 591 = .ok (.aload_n 0, 1) := by decide +kernel
theorem dL_law_592 : decode cL_law 592 = .ok (.iload 4, 2) := by decide +kernel
theorem dL_law_594 : decode cL_law 594 = .ok (.iconst 1, 1) := by decide +kernel
theorem dL_law_595 : decode cL_law 595 = .ok (.iadd, 1) := by decide +kernel
theorem dL_law_596 : decode cL_law 596 = .ok (.iaload, 1) := by decide +kernel
theorem dL_law_597 : decode cL_law 597 = .ok (.invokevirtual 78, 3) := by decide +kernel
theorem dL_law_600 : decode cL_law 600 = .ok (.aload_n 2, 1) := by decide +kernel
theorem dL_law_601 : decode cL_law 601 = .ok (.aload_n 0, 1) := by decide +kernel
theorem dL_law_602 : decode cL_law 602 = .ok (.iload 4, 2) := by decide +kernel
theorem dL_law_604 : decode cL_law 604 = .ok (.iconst 1, 1) := by decide +kernel
theorem dL_law_605 : decode cL_law 605 = .ok (.iadd, 1) := by decide +kernel
theorem dL_law_606 : decode cL_law 606 = .ok (.iaload, 1) := by decide +kernel
theorem dL_law_607 : decode cL_law 607 = .ok (.invokevirtual 81, 3) := by decide +kernel
theorem dL_law_610 : decode cL_law 610 = .ok (.if_icmp .eq 252, 3) := by decide +kernel
theorem dL_law_613 : decode cL_law 613 = .ok (.iconst 0, 1) := by decide +kernel
theorem dL_law_614 : decode cL_law 614 = .ok (.ireturn, 1) := by decide +kernel
theorem dL_law_615 : decode cL_law 615 = .ok (.aload_n 1, 1) := by decide +kernel
theorem dL_law_616 : decode cL_law 616 = .ok (.aload_n 0, 1) := by decide +kernel
theorem dL_law_617 : decode cL_law 617 = .ok (.iload 4, 2) := by decide +kernel
theorem dL_law_619 : decode cL_law 619 = .ok (.iconst 1, 1) := by decide +kernel
theorem dL_law_620 : decode cL_law 620 = .ok (.iadd, 1) := by decide +kernel
theorem dL_law_621 : decode cL_law 621 = .ok (.iaload, 1) := by decide +kernel
theorem dL_law_622 : decode cL_law 622 = .ok (.aload_n 0, 1) := by decide +kernel
theorem dL_law_623 : decode cL_law 623 = .ok (.iload 4, 2) := by decide +kernel
theorem dL_law_625 : decode cL_law 625 = .ok (.iconst 2, 1) := by decide +kernel
theorem dL_law_626 : decode cL_law 626 = .ok (.iadd, 1) := by decide +kernel
theorem dL_law_627 : decode cL_law 627 = .ok (.iaload, 1) := by decide +kernel
theorem dL_law_628 : decode cL_law 628 = .ok (.aload_n 0, 1) := by decide +kernel
theorem dL_law_629 : decode cL_law 629 = .ok (.iload 4, 2) := by decide +kernel
theorem dL_law_631 : decode cL_law 631 = .ok (.iconst 3, 1) := by decide +kernel
theorem dL_law_632 : decode cL_law 632 = .ok (.iadd, 1) := by decide +kernel
theorem dL_law_633 : decode cL_law 633 = .ok (.iaload, 1) := by decide +kernel
theorem dL_law_634 : decode cL_law 634 = .ok (.invokevirtual 82, 3) := by decide +kernel
theorem dL_law_637 : decode cL_law 637 = .ok (.aload_n 2, 1) := by decide +kernel
theorem dL_law_638 : decode cL_law 638 = .ok (.aload_n 0, 1) := by decide +kernel
theorem dL_law_639 : decode cL_law 639 = .ok (.iload 4, 2) := by decide +kernel
theorem dL_law_641 : decode cL_law 641 = .ok (.iconst 1, 1) := by decide +kernel
theorem dL_law_642 : decode cL_law 642 = .ok (.iadd, 1) := by decide +kernel
theorem dL_law_643 : decode cL_law 643 = .ok (.iaload, 1) := by decide +kernel
theorem dL_law_644 : decode cL_law 644 = .ok (.aload_n 0, 1) := by decide +kernel
theorem dL_law_645 : decode cL_law 645 = .ok (.iload 4, 2) := by decide +kernel
theorem dL_law_647 : decode cL_law 647 = .ok (.iconst 2, 1) := by decide +kernel
theorem dL_law_648 : decode cL_law 648 = .ok (.iadd, 1) := by decide +kernel
theorem dL_law_649 : decode cL_law 649 = .ok (.iaload, 1) := by decide +kernel
theorem dL_law_650 : decode cL_law 650 = .ok (.aload_n 0, 1) := by decide +kernel
theorem dL_law_651 : decode cL_law 651 = .ok (.iload 4, 2) := by decide +kernel
theorem dL_law_653 : decode cL_law 653 = .ok (.iconst 3, 1) := by decide +kernel
theorem dL_law_654 : decode cL_law 654 = .ok (.iadd, 1) := by decide +kernel
theorem dL_law_655 : decode cL_law 655 = .ok (.iaload, 1) := by decide +kernel
theorem dL_law_656 : decode cL_law 656 = .ok (.invokevirtual 85, 3) := by decide +kernel
theorem dL_law_659 : decode cL_law 659 = .ok (.if_icmp .eq 203, 3) := by decide +kernel
theorem dL_law_662 : decode cL_law 662 = .ok (.iconst 0, 1) := by decide +kernel
theorem dL_law_663 : decode cL_law 663 = .ok (.ireturn, 1) := by decide +kernel
theorem dL_law_664 : decode cL_law 664 = .ok (.aload_n 1, 1) := by decide +kernel
theorem dL_law_665 : decode cL_law 665 = .ok (.aload_n 0, 1) := by decide +kernel
theorem dL_law_666 : decode cL_law 666 = .ok (.iload 4, 2) := by decide +kernel
theorem dL_law_668 : decode cL_law 668 = .ok (.iconst 1, 1) := by decide +kernel
theorem dL_law_669 : decode cL_law 669 = .ok (.iadd, 1) := by decide +kernel
theorem dL_law_670 : decode cL_law 670 = .ok (.iaload, 1) := by decide +kernel
theorem dL_law_671 : decode cL_law 671 = .ok (.aload_n 0, 1) := by decide +kernel
theorem dL_law_672 : decode cL_law 672 = .ok (.iload 4, 2) := by decide +kernel
theorem dL_law_674 : decode cL_law 674 = .ok (.iconst 2, 1) := by decide +kernel
theorem dL_law_675 : decode cL_law 675 = .ok (.iadd, 1) := by decide +kernel
theorem dL_law_676 : decode cL_law 676 = .ok (.iaload, 1) := by decide +kernel
theorem dL_law_677 : decode cL_law 677 = .ok (.aload_n 0, 1) := by decide +kernel
theorem dL_law_678 : decode cL_law 678 = .ok (.iload 4, 2) := by decide +kernel
theorem dL_law_680 : decode cL_law 680 = .ok (.iconst 3, 1) := by decide +kernel
theorem dL_law_681 : decode cL_law 681 = .ok (.iadd, 1) := by decide +kernel
theorem dL_law_682 : decode cL_law 682 = .ok (.iaload, 1) := by decide +kernel
theorem dL_law_683 : decode cL_law 683 = .ok (.aload_n 0, 1) := by decide +kernel
theorem dL_law_684 : decode cL_law 684 = .ok (.iload 4, 2) := by decide +kernel
theorem dL_law_686 : decode cL_law 686 = .ok (.iconst 4, 1) := by decide +kernel
theorem dL_law_687 : decode cL_law 687 = .ok (.iadd, 1) := by decide +kernel
theorem dL_law_688 : decode cL_law 688 = .ok (.iaload, 1) := by decide +kernel
theorem dL_law_689 : decode cL_law 689 = .ok (.invokevirtual 86, 3) := by decide +kernel
theorem dL_law_692 : decode cL_law 692 = .ok (.aload_n 2, 1) := by decide +kernel
theorem dL_law_693 : decode cL_law 693 = .ok (.aload_n 0, 1) := by decide +kernel
theorem dL_law_694 : decode cL_law 694 = .ok (.iload 4, 2) := by decide +kernel
theorem dL_law_696 : decode cL_law 696 = .ok (.iconst 1, 1) := by decide +kernel
theorem dL_law_697 : decode cL_law 697 = .ok (.iadd, 1) := by decide +kernel
theorem dL_law_698 : decode cL_law 698 = .ok (.iaload, 1) := by decide +kernel
theorem dL_law_699 : decode cL_law 699 = .ok (.aload_n 0, 1) := by decide +kernel
theorem dL_law_700 : decode cL_law 700 = .ok (.iload 4, 2) := by decide +kernel
theorem dL_law_702 : decode cL_law 702 = .ok (.iconst 2, 1) := by decide +kernel
theorem dL_law_703 : decode cL_law 703 = .ok (.iadd, 1) := by decide +kernel
theorem dL_law_704 : decode cL_law 704 = .ok (.iaload, 1) := by decide +kernel
theorem dL_law_705 : decode cL_law 705 = .ok (.aload_n 0, 1) := by decide +kernel
theorem dL_law_706 : decode cL_law 706 = .ok (.iload 4, 2) := by decide +kernel
theorem dL_law_708 : decode cL_law 708 = .ok (.iconst 3, 1) := by decide +kernel
theorem dL_law_709 : decode cL_law 709 = .ok (.iadd, 1) := by decide +kernel
theorem dL_law_710 : decode cL_law 710 = .ok (.iaload, 1) := by decide +kernel
theorem dL_law_711 : decode cL_law 711 = .ok (.aload_n 0, 1) := by decide +kernel
theorem dL_law_712 : decode cL_law 712 = .ok (.iload 4, 2) := by decide +kernel
theorem dL_law_714 : decode cL_law 714 = .ok (.iconst 4, 1) := by decide +kernel
theorem dL_law_715 : decode cL_law 715 = .ok (.iadd, 1) := by decide +kernel
theorem dL_law_716 : decode cL_law 716 = .ok (.iaload, 1) := by decide +kernel
theorem dL_law_717 : decode cL_law 717 = .ok (.invokevirtual 89, 3) := by decide +kernel
theorem dL_law_720 : decode cL_law 720 = .ok (.if_icmp .eq 142, 3) := by decide +kernel
theorem dL_law_723 : decode cL_law 723 = .ok (.iconst 0, 1) := by decide +kernel
theorem dL_law_724 : decode cL_law 724 = .ok (.ireturn, 1) := by decide +kernel
theorem dL_law_725 : decode cL_law 725 = .ok (.aload_n 1, 1) := by decide +kernel
theorem dL_law_726 : decode cL_law 726 = .ok (.aload_n 0, 1) := by decide +kernel
theorem dL_law_727 : decode cL_law 727 = .ok (.iload 4, 2) := by decide +kernel
theorem dL_law_729 : decode cL_law 729 = .ok (.iconst 1, 1) := by decide +kernel
theorem dL_law_730 : decode cL_law 730 = .ok (.iadd, 1) := by decide +kernel
theorem dL_law_731 : decode cL_law 731 = .ok (.iaload, 1) := by decide +kernel
theorem dL_law_732 : decode cL_law 732 = .ok (.aload_n 0, 1) := by decide +kernel
theorem dL_law_733 : decode cL_law 733 = .ok (.iload 4, 2) := by decide +kernel
theorem dL_law_735 : decode cL_law 735 = .ok (.iconst 2, 1) := by decide +kernel
theorem dL_law_736 : decode cL_law 736 = .ok (.iadd, 1) := by decide +kernel
theorem dL_law_737 : decode cL_law 737 = .ok (.iaload, 1) := by decide +kernel
theorem dL_law_738 : decode cL_law 738 = .ok (.invokevirtual 90, 3) := by decide +kernel
theorem dL_law_741 : decode cL_law 741 = .ok (.aload_n 2, 1) := by decide +kernel
theorem dL_law_742 : decode cL_law 742 = .ok (.aload_n 0, 1) := by decide +kernel
theorem dL_law_743 : decode cL_law 743 = .ok (.iload 4, 2) := by decide +kernel
theorem dL_law_745 : decode cL_law 745 = .ok (.iconst 1, 1) := by decide +kernel
theorem dL_law_746 : decode cL_law 746 = .ok (.iadd, 1) := by decide +kernel
theorem dL_law_747 : decode cL_law 747 = .ok (.iaload, 1) := by decide +kernel
theorem dL_law_748 : decode cL_law 748 = .ok (.aload_n 0, 1) := by decide +kernel
theorem dL_law_749 : decode cL_law 749 = .ok (.iload 4, 2) := by decide +kernel
theorem dL_law_751 : decode cL_law 751 = .ok (.iconst 2, 1) := by decide +kernel
theorem dL_law_752 : decode cL_law 752 = .ok (.iadd, 1) := by decide +kernel
theorem dL_law_753 : decode cL_law 753 = .ok (.iaload, 1) := by decide +kernel
theorem dL_law_754 : decode cL_law 754 = .ok (.invokevirtual 93, 3) := by decide +kernel
theorem dL_law_757 : decode cL_law 757 = .ok (.if_icmp .eq 105, 3) := by decide +kernel
theorem dL_law_760 : decode cL_law 760 = .ok (.iconst 0, 1) := by decide +kernel
theorem dL_law_761 : decode cL_law 761 = .ok (.ireturn, 1) := by decide +kernel
theorem dL_law_762 : decode cL_law 762 = .ok (.aload_n 1, 1) := by decide +kernel
theorem dL_law_763 : decode cL_law 763 = .ok (.invokevirtual 94, 3) := by decide +kernel
theorem dL_law_766 : decode cL_law 766 = .ok (.aload_n 2, 1) := by decide +kernel
theorem dL_law_767 : decode cL_law 767 = .ok (.invokevirtual 97, 3) := by decide +kernel
theorem dL_law_770 : decode cL_law 770 = .ok (.if_icmp .eq 92, 3) := by decide +kernel
theorem dL_law_773 : decode cL_law 773 = .ok (.iconst 0, 1) := by decide +kernel
theorem dL_law_774 : decode cL_law 774 = .ok (.ireturn, 1) := by decide +kernel
theorem dL_law_775 : decode cL_law 775 = .ok (.aload_n 1, 1) := by decide +kernel
theorem dL_law_776 : decode cL_law 776 = .ok (.aload_n 0, 1) := by decide +kernel
theorem dL_law_777 : decode cL_law 777 = .ok (.iload 4, 2) := by decide +kernel
theorem dL_law_779 : decode cL_law 779 = .ok (.iconst 1, 1) := by decide +kernel
theorem dL_law_780 : decode cL_law 780 = .ok (.iadd, 1) := by decide +kernel
theorem dL_law_781 : decode cL_law 781 = .ok (.iaload, 1) := by decide +kernel
theorem dL_law_782 : decode cL_law 782 = .ok (.invokevirtual 98, 3) := by decide +kernel
theorem dL_law_785 : decode cL_law 785 = .ok (.aload_n 2, 1) := by decide +kernel
theorem dL_law_786 : decode cL_law 786 = .ok (.aload_n 0, 1) := by decide +kernel
theorem dL_law_787 : decode cL_law 787 = .ok (.iload 4, 2) := by decide +kernel
theorem dL_law_789 : decode cL_law 789 = .ok (.iconst 1, 1) := by decide +kernel
theorem dL_law_790 : decode cL_law 790 = .ok (.iadd, 1) := by decide +kernel
theorem dL_law_791 : decode cL_law 791 = .ok (.iaload, 1) := by decide +kernel
theorem dL_law_792 : decode cL_law 792 = .ok (.invokevirtual 101, 3) := by decide +kernel
theorem dL_law_795 : decode cL_law 795 = .ok (.if_icmp .eq 67, 3) := by decide +kernel
theorem dL_law_798 : decode cL_law 798 = .ok (.iconst 0, 1) := by decide +kernel
theorem dL_law_799 : decode cL_law 799 = .ok (.ireturn, 1) := by decide +kernel
theorem dL_law_800 : decode cL_law 800 = .ok (.aload_n 1, 1) := by decide +kernel
theorem dL_law_801 : decode cL_law 801 = .ok (.aload_n 0, 1) := by decide +kernel
theorem dL_law_802 : decode cL_law 802 = .ok (.iload 4, 2) := by decide +kernel
theorem dL_law_804 : decode cL_law 804 = .ok (.iconst 1, 1) := by decide +kernel
theorem dL_law_805 : decode cL_law 805 = .ok (.iadd, 1) := by decide +kernel
theorem dL_law_806 : decode cL_law 806 = .ok (.iaload, 1) := by decide +kernel
theorem dL_law_807 : decode cL_law 807 = .ok (.aload_n 0, 1) := by decide +kernel
theorem dL_law_808 : decode cL_law 808 = .ok (.iload 4, 2) := by decide +kernel
theorem dL_law_810 : decode cL_law 810 = .ok (.iconst 2, 1) := by decide +kernel
theorem dL_law_811 : decode cL_law 811 = .ok (.iadd, 1) := by decide +kernel
theorem dL_law_812 : decode cL_law 812 = .ok (.iaload, 1) := by decide +kernel
theorem dL_law_813 : decode cL_law 813 = .ok (.invokevirtual 102, 3) := by decide +kernel
theorem dL_law_816 : decode cL_law 816 = .ok (.aload_n 2, 1) := by decide +kernel
theorem dL_law_817 : decode cL_law 817 = .ok (.aload_n 0, 1) := by decide +kernel
theorem dL_law_818 : decode cL_law 818 = .ok (.iload 4, 2) := by decide +kernel
theorem dL_law_820 : decode cL_law 820 = .ok (.iconst 1, 1) := by decide +kernel
theorem dL_law_821 : decode cL_law 821 = .ok (.iadd, 1) := by decide +kernel
theorem dL_law_822 : decode cL_law 822 = .ok (.iaload, 1) := by decide +kernel
theorem dL_law_823 : decode cL_law 823 = .ok (.aload_n 0, 1) := by decide +kernel
theorem dL_law_824 : decode cL_law 824 = .ok (.iload 4, 2) := by decide +kernel
theorem dL_law_826 : decode cL_law 826 = .ok (.iconst 2, 1) := by decide +kernel
theorem dL_law_827 : decode cL_law 827 = .ok (.iadd, 1) := by decide +kernel
theorem dL_law_828 : decode cL_law 828 = .ok (.iaload, 1) := by decide +kernel
theorem dL_law_829 : decode cL_law 829 = .ok (.invokevirtual 105, 3) := by decide +kernel
theorem dL_law_832 : decode cL_law 832 = .ok (.if_icmp .eq 30, 3) := by decide +kernel
theorem dL_law_835 : decode cL_law 835 = .ok (.iconst 0, 1) := by decide +kernel
theorem dL_law_836 : decode cL_law 836 = .ok (.ireturn, 1) := by decide +kernel
theorem dL_law_837 : decode cL_law 837 = .ok (.aload_n 1, 1) := by decide +kernel
theorem dL_law_838 : decode cL_law 838 = .ok (.aload_n 0, 1) := by decide +kernel
theorem dL_law_839 : decode cL_law 839 = .ok (.iload 4, 2) := by decide +kernel
theorem dL_law_841 : decode cL_law 841 = .ok (.iconst 1, 1) := by decide +kernel
theorem dL_law_842 : decode cL_law 842 = .ok (.iadd, 1) := by decide +kernel
theorem dL_law_843 : decode cL_law 843 = .ok (.iaload, 1) := by decide +kernel
theorem dL_law_844 : decode cL_law 844 = .ok (.invokevirtual 106, 3) := by decide +kernel
theorem dL_law_847 : decode cL_law 847 = .ok (.aload_n 2, 1) := by decide +kernel
theorem dL_law_848 : decode cL_law 848 = .ok (.aload_n 0, 1) := by decide +kernel
theorem dL_law_849 : decode cL_law 849 = .ok (.iload 4, 2) := by decide +kernel
theorem dL_law_851 : decode cL_law 851 = .ok (.iconst 1, 1) := by decide +kernel
theorem dL_law_852 : decode cL_law 852 = .ok (.iadd, 1) := by decide +kernel
theorem dL_law_853 : decode cL_law 853 = .ok (.iaload, 1) := by decide +kernel
theorem dL_law_854 : decode cL_law 854 = .ok (.invokevirtual 109, 3) := by decide +kernel
theorem dL_law_857 : decode cL_law 857 = .ok (.if_icmp .eq 5, 3) := by decide +kernel
theorem dL_law_860 : decode cL_law 860 = .ok (.iconst 0, 1) := by decide +kernel
theorem dL_law_861 : decode cL_law 861 = .ok (.ireturn, 1) := by decide +kernel
theorem dL_law_862 : decode cL_law 862 = .ok (.iinc 4 7, 3) := by decide +kernel
theorem dL_law_865 : decode cL_law 865 = .ok (.goto (-842), 3) := by decide +kernel
theorem dL_law_868 : decode cL_law 868 = .ok (.iconst 1, 1) := by decide +kernel
theorem dL_law_869 : decode cL_law 869 = .ok (.ireturn, 1) := by decide +kernel
