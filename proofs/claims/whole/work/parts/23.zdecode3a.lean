theorem dX3_tell_143 : decode cX3_tell 143 = .ok (.iadd, 1) := by decide +kernel
theorem dX3_tell_144 : decode cX3_tell 144 = .ok (.aload_n 0, 1) := by decide +kernel
theorem dX3_tell_145 : decode cX3_tell 145 = .ok (.getfield 51, 3) := by decide +kernel
theorem dX3_tell_148 : decode cX3_tell 148 = .ok (.iload 4, 2) := by decide +kernel
theorem dX3_tell_150 : decode cX3_tell 150 = .ok (.bipush 22, 2) := by decide +kernel
theorem dX3_tell_152 : decode cX3_tell 152 = .ok (.iadd, 1) := by decide +kernel
theorem dX3_tell_153 : decode cX3_tell 153 = .ok (.iload 5, 2) := by decide +kernel
theorem dX3_tell_155 : decode cX3_tell 155 = .ok (.iadd, 1) := by decide +kernel
theorem dX3_tell_156 : decode cX3_tell 156 = .ok (.laload, 1) := by decide +kernel
theorem dX3_tell_157 : decode cX3_tell 157 = .ok (.aload_n 0, 1) := by decide +kernel
theorem dX3_tell_158 : decode cX3_tell 158 = .ok (.getfield 51, 3) := by decide +kernel
theorem dX3_tell_161 : decode cX3_tell 161 = .ok (.iload_n 3, 1) := by decide +kernel
theorem dX3_tell_162 : decode cX3_tell 162 = .ok (.bipush 22, 2) := by decide +kernel
theorem dX3_tell_164 : decode cX3_tell 164 = .ok (.iadd, 1) := by decide +kernel
theorem dX3_tell_165 : decode cX3_tell 165 = .ok (.iload 5, 2) := by decide +kernel
theorem dX3_tell_167 : decode cX3_tell 167 = .ok (.iadd, 1) := by decide +kernel
theorem dX3_tell_168 : decode cX3_tell 168 = .ok (.laload, 1) := by decide +kernel
theorem dX3_tell_169 : decode cX3_tell 169 = .ok (.lsub, 1) := by decide +kernel
theorem dX3_tell_170 : decode cX3_tell 170 = .ok (.lastore, 1) := by decide +kernel
theorem dX3_tell_171 : decode cX3_tell 171 = .ok (.iinc 5 1, 3) := by decide +kernel
theorem dX3_tell_174 : decode cX3_tell 174 = .ok (.goto (-44), 3) := by decide +kernel
theorem dX3_tell_177 : decode cX3_tell 177 = .ok (.return_, 1) := by decide +kernel
set_option maxRecDepth 20000 in
theorem ggX3_ring_X3_in : GoodIn wsX3_ring wsX3_in := goodIn_r _ [9] (by decide +kernel) (by decide +kernel)
set_option maxRecDepth 20000 in
theorem gX3_ring_X3_in : GoodIn wsX3_ring (va_wsS RX3 76 yX3_in wsX3_in) := goodIn_app (goodIn_of _ (by decide +kernel)) ggX3_ring_X3_in
set_option maxRecDepth 20000 in
theorem ggX3_ring_X3_copy : GoodIn wsX3_ring wsX3_copy := goodIn_r _ [12] (by decide +kernel) (by decide +kernel)
set_option maxRecDepth 20000 in
theorem gX3_ring_X3_copy : GoodIn wsX3_ring (va_wsS RX3 117 yX3_copy wsX3_copy) := goodIn_app (goodIn_of _ (by decide +kernel)) ggX3_ring_X3_copy
set_option maxRecDepth 20000 in
theorem ggX3_ring_X3_seek : GoodIn wsX3_ring wsX3_seek := goodIn_r _ [16, 17, 18, 19, 8, 20, 21, 3, 22, 23, 24, 25, 2, 26, 27, 28, 29, 30, 31, 32, 33, 5, 34, 35, 36, 37, 38, 10, 11, 12, 39, 40, 41, 42, 43, 44, 45, 46, 47, 48, 49, 50, 51, 52, 53, 54, 55, 56, 57, 58, 59, 60, 61, 62, 63, 64, 65, 66, 67, 68, 69, 70, 71, 72, 73, 74, 75, 76, 77, 78, 79, 80, 81, 82, 83, 84, 85, 86, 87, 88, 89, 90, 91, 92, 93, 94, 95, 96, 97, 98, 99, 100, 101, 102, 103, 104, 105, 106, 107, 108, 109, 110, 111, 112, 113, 114] (by decide +kernel) (by decide +kernel)
set_option maxRecDepth 20000 in
theorem gX3_ring_X3_seek : GoodIn wsX3_ring (wsV RX3 173 RX3 yX3_seek wsX3_seek) := goodIn_app (goodIn_of _ (by decide +kernel)) ggX3_ring_X3_seek
theorem dX3_ring_0 : decode cX3_ring 0 = .ok (.aload_n 0, 1) := by decide +kernel
theorem dX3_ring_1 : decode cX3_ring 1 = .ok (.iconst 0, 1) := by decide +kernel
theorem dX3_ring_2 : decode cX3_ring 2 = .ok (.putfield 69, 3) := by decide +kernel
theorem dX3_ring_5 : decode cX3_ring 5 = .ok (.iload_n 1, 1) := by decide +kernel
theorem dX3_ring_6 : decode cX3_ring 6 = .ok (.iconst 1, 1) := by decide +kernel
theorem dX3_ring_7 : decode cX3_ring 7 = .ok (.sipush 300, 3) := by decide +kernel
theorem dX3_ring_10 : decode cX3_ring 10 = .ok (.invokestatic 76, 3) := by decide +kernel
theorem dX3_ring_13 : decode cX3_ring 13 = .ok (.ifCond .eq 10, 3) := by decide +kernel
theorem dX3_ring_16 : decode cX3_ring 16 = .ok (.aload_n 0, 1) := by decide +kernel
theorem dX3_ring_17 : decode cX3_ring 17 = .ok (.getfield 73, 3) := by decide +kernel
theorem dX3_ring_20 : decode cX3_ring 20 = .ok (.ifCond .ne 5, 3) := by decide +kernel
theorem dX3_ring_23 : decode cX3_ring 23 = .ok (.iconst (-1), 1) := by decide +kernel
theorem dX3_ring_24 : decode cX3_ring 24 = .ok (.ireturn, 1) := by decide +kernel
theorem dX3_ring_25 : decode cX3_ring 25 = .ok (.aload_n 0, 1) := by decide +kernel
theorem dX3_ring_26 : decode cX3_ring 26 = .ok (.getfield 25, 3) := by decide +kernel
theorem dX3_ring_29 : decode cX3_ring 29 = .ok (.aload_n 0, 1) := by decide +kernel
theorem dX3_ring_30 : decode cX3_ring 30 = .ok (.getfield 32, 3) := by decide +kernel
theorem dX3_ring_33 : decode cX3_ring 33 = .ok (.invokestatic 117, 3) := by decide +kernel
theorem dX3_ring_36 : decode cX3_ring 36 = .ok (.aload_n 0, 1) := by decide +kernel
theorem dX3_ring_37 : decode cX3_ring 37 = .ok (.iconst 0, 1) := by decide +kernel
theorem dX3_ring_38 : decode cX3_ring 38 = .ok (.putfield 47, 3) := by decide +kernel
theorem dX3_ring_41 : decode cX3_ring 41 = .ok (.aload_n 0, 1) := by decide +kernel
theorem dX3_ring_42 : decode cX3_ring 42 = .ok (.iload_n 1, 1) := by decide +kernel
theorem dX3_ring_43 : decode cX3_ring 43 = .ok (.invokevirtual 173, 3) := by decide +kernel
theorem dX3_ring_46 : decode cX3_ring 46 = .ok (.istore_n 2, 1) := by decide +kernel
theorem dX3_ring_47 : decode cX3_ring 47 = .ok (.aload_n 0, 1) := by decide +kernel
theorem dX3_ring_48 : decode cX3_ring 48 = .ok (.iconst 1, 1) := by decide +kernel
theorem dX3_ring_49 : decode cX3_ring 49 = .ok (.putfield 47, 3) := by decide +kernel
theorem dX3_ring_52 : decode cX3_ring 52 = .ok (.aload_n 0, 1) := by decide +kernel
theorem dX3_ring_53 : decode cX3_ring 53 = .ok (.getfield 32, 3) := by decide +kernel
theorem dX3_ring_56 : decode cX3_ring 56 = .ok (.aload_n 0, 1) := by decide +kernel
theorem dX3_ring_57 : decode cX3_ring 57 = .ok (.getfield 25, 3) := by decide +kernel
theorem dX3_ring_60 : decode cX3_ring 60 = .ok (.invokestatic 117, 3) := by decide +kernel
theorem dX3_ring_63 : decode cX3_ring 63 = .ok (.iload_n 2, 1) := by decide +kernel
theorem dX3_ring_64 : decode cX3_ring 64 = .ok (.ireturn, 1) := by decide +kernel
set_option maxRecDepth 20000 in
theorem ggX3_ringed_X3_in : GoodIn wsX3_ringed wsX3_in := goodIn_r _ [8] (by decide +kernel) (by decide +kernel)
set_option maxRecDepth 20000 in
theorem gX3_ringed_X3_in : GoodIn wsX3_ringed (va_wsS RX3 76 yX3_in wsX3_in) := goodIn_app (goodIn_of _ (by decide +kernel)) ggX3_ringed_X3_in
theorem dX3_ringed_0 : decode cX3_ringed 0 = .ok (.aload_n 0, 1) := by decide +kernel
theorem dX3_ringed_1 : decode cX3_ringed 1 = .ok (.iconst 0, 1) := by decide +kernel
theorem dX3_ringed_2 : decode cX3_ringed 2 = .ok (.putfield 69, 3) := by decide +kernel
theorem dX3_ringed_5 : decode cX3_ringed 5 = .ok (.aload_n 0, 1) := by decide +kernel
theorem dX3_ringed_6 : decode cX3_ringed 6 = .ok (.getfield 170, 3) := by decide +kernel
theorem dX3_ringed_9 : decode cX3_ringed 9 = .ok (.ifCond .eq 22, 3) := by decide +kernel
theorem dX3_ringed_12 : decode cX3_ringed 12 = .ok (.iload_n 1, 1) := by decide +kernel
theorem dX3_ringed_13 : decode cX3_ringed 13 = .ok (.iconst 0, 1) := by decide +kernel
theorem dX3_ringed_14 : decode cX3_ringed 14 = .ok (.bipush 7, 2) := by decide +kernel
theorem dX3_ringed_16 : decode cX3_ringed 16 = .ok (.invokestatic 76, 3) := by decide +kernel
theorem dX3_ringed_19 : decode cX3_ringed 19 = .ok (.ifCond .eq 12, 3) := by decide +kernel
theorem dX3_ringed_22 : decode cX3_ringed 22 = .ok (.aload_n 0, 1) := by decide +kernel
theorem dX3_ringed_23 : decode cX3_ringed 23 = .ok (.getfield 54, 3) := by decide +kernel
theorem dX3_ringed_26 : decode cX3_ringed 26 = .ok (.iload_n 1, 1) := by decide +kernel
theorem dX3_ringed_27 : decode cX3_ringed 27 = .ok (.laload, 1) := by decide +kernel
theorem dX3_ringed_28 : decode cX3_ringed 28 = .ok (.goto 6, 3) := by decide +kernel
theorem dX3_ringed_31 : decode cX3_ringed 31 = .ok (.ldc2_w 177, 3) := by decide +kernel
theorem dX3_ringed_34 : decode cX3_ringed 34 = .ok (.lreturn, 1) := by decide +kernel
set_option maxRecDepth 20000 in
theorem ggX3_drawer_X3_in : GoodIn wsX3_drawer wsX3_in := goodIn_r _ [7] (by decide +kernel) (by decide +kernel)
set_option maxRecDepth 20000 in
theorem gX3_drawer_X3_in : GoodIn wsX3_drawer (va_wsS RX3 76 yX3_in wsX3_in) := goodIn_app (goodIn_of _ (by decide +kernel)) ggX3_drawer_X3_in
theorem dX3_drawer_0 : decode cX3_drawer 0 = .ok (.aload_n 0, 1) := by decide +kernel
theorem dX3_drawer_1 : decode cX3_drawer 1 = .ok (.iconst 0, 1) := by decide +kernel
theorem dX3_drawer_2 : decode cX3_drawer 2 = .ok (.putfield 69, 3) := by decide +kernel
theorem dX3_drawer_5 : decode cX3_drawer 5 = .ok (.iload_n 1, 1) := by decide +kernel
theorem dX3_drawer_6 : decode cX3_drawer 6 = .ok (.iconst 1, 1) := by decide +kernel
theorem dX3_drawer_7 : decode cX3_drawer 7 = .ok (.bipush 60, 2) := by decide +kernel
theorem dX3_drawer_9 : decode cX3_drawer 9 = .ok (.invokestatic 76, 3) := by decide +kernel
theorem dX3_drawer_12 : decode cX3_drawer 12 = .ok (.ifCond .eq 12, 3) := by decide +kernel
theorem dX3_drawer_15 : decode cX3_drawer 15 = .ok (.aload_n 0, 1) := by decide +kernel
theorem dX3_drawer_16 : decode cX3_drawer 16 = .ok (.getfield 149, 3) := by decide +kernel
theorem dX3_drawer_19 : decode cX3_drawer 19 = .ok (.bipush 10, 2) := by decide +kernel
theorem dX3_drawer_21 : decode cX3_drawer 21 = .ok (.if_icmp .ne 5, 3) := by decide +kernel
theorem dX3_drawer_24 : decode cX3_drawer 24 = .ok (.iconst (-1), 1) := by decide +kernel
theorem dX3_drawer_25 : decode cX3_drawer 25 = .ok (.ireturn, 1) := by decide +kernel
theorem dX3_drawer_26 : decode cX3_drawer 26 = .ok (.iconst 0, 1) := by decide +kernel
theorem dX3_drawer_27 : decode cX3_drawer 27 = .ok (.istore_n 2, 1) := by decide +kernel
theorem dX3_drawer_28 : decode cX3_drawer 28 = .ok (.iload_n 2, 1) := by decide +kernel
theorem dX3_drawer_29 : decode cX3_drawer 29 = .ok (.aload_n 0, 1) := by decide +kernel
theorem dX3_drawer_30 : decode cX3_drawer 30 = .ok (.getfield 149, 3) := by decide +kernel
theorem dX3_drawer_33 : decode cX3_drawer 33 = .ok (.if_icmp .ge 21, 3) := by decide +kernel
theorem dX3_drawer_36 : decode cX3_drawer 36 = .ok (.aload_n 0, 1) := by decide +kernel
theorem dX3_drawer_37 : decode cX3_drawer 37 = .ok (.getfield 57, 3) := by decide +kernel
theorem dX3_drawer_40 : decode cX3_drawer 40 = .ok (.iload_n 2, 1) := by decide +kernel
theorem dX3_drawer_41 : decode cX3_drawer 41 = .ok (.iaload, 1) := by decide +kernel
theorem dX3_drawer_42 : decode cX3_drawer 42 = .ok (.iload_n 1, 1) := by decide +kernel
theorem dX3_drawer_43 : decode cX3_drawer 43 = .ok (.if_icmp .ne 5, 3) := by decide +kernel
theorem dX3_drawer_46 : decode cX3_drawer 46 = .ok (.iconst (-1), 1) := by decide +kernel
theorem dX3_drawer_47 : decode cX3_drawer 47 = .ok (.ireturn, 1) := by decide +kernel
theorem dX3_drawer_48 : decode cX3_drawer 48 = .ok (.iinc 2 1, 3) := by decide +kernel
theorem dX3_drawer_51 : decode cX3_drawer 51 = .ok (.goto (-23), 3) := by decide +kernel
theorem dX3_drawer_54 : decode cX3_drawer 54 = .ok (.aload_n 0, 1) := by decide +kernel
theorem dX3_drawer_55 : decode cX3_drawer 55 = .ok (.getfield 57, 3) := by decide +kernel
theorem dX3_drawer_58 : decode cX3_drawer 58 = .ok (.aload_n 0, 1) := by decide +kernel
theorem dX3_drawer_59 : decode cX3_drawer 59 = .ok (.getfield 149, 3) := by decide +kernel
theorem dX3_drawer_62 : decode cX3_drawer 62 = .ok (.iload_n 1, 1) := by decide +kernel
theorem dX3_drawer_63 : decode cX3_drawer 63 = .ok (.iastore, 1) := by decide +kernel
theorem dX3_drawer_64 : decode cX3_drawer 64 = .ok (.aload_n 0, 1) := by decide +kernel
theorem dX3_drawer_65 : decode cX3_drawer 65 = .ok (.dup, 1) := by decide +kernel
theorem dX3_drawer_66 : decode cX3_drawer 66 = .ok (.getfield 149, 3) := by decide +kernel
theorem dX3_drawer_69 : decode cX3_drawer 69 = .ok (.iconst 1, 1) := by decide +kernel
theorem dX3_drawer_70 : decode cX3_drawer 70 = .ok (.iadd, 1) := by decide +kernel
theorem dX3_drawer_71 : decode cX3_drawer 71 = .ok (.putfield 149, 3) := by decide +kernel
theorem dX3_drawer_74 : decode cX3_drawer 74 = .ok (.aload_n 0, 1) := by decide +kernel
theorem dX3_drawer_75 : decode cX3_drawer 75 = .ok (.getfield 149, 3) := by decide +kernel
theorem dX3_drawer_78 : decode cX3_drawer 78 = .ok (.ireturn, 1) := by decide +kernel
set_option maxRecDepth 20000 in
theorem ggX3_isFraction_X3_in : GoodIn wsX3_isFraction wsX3_in := goodIn_r _ [5] (by decide +kernel) (by decide +kernel)
set_option maxRecDepth 20000 in
theorem gX3_isFraction_X3_in : GoodIn wsX3_isFraction (va_wsS RX3 76 yX3_in wsX3_in) := goodIn_app (goodIn_of _ (by decide +kernel)) ggX3_isFraction_X3_in
theorem dX3_isFraction_0 : decode cX3_isFraction 0 = .ok (.iload_n 0, 1) := by decide +kernel
theorem dX3_isFraction_1 : decode cX3_isFraction 1 = .ok (.iconst 1, 1) := by decide +kernel
theorem dX3_isFraction_2 : decode cX3_isFraction 2 = .ok (.ldc 179, 2) := by decide +kernel
theorem dX3_isFraction_4 : decode cX3_isFraction 4 = .ok (.invokestatic 76, 3) := by decide +kernel
theorem dX3_isFraction_7 : decode cX3_isFraction 7 = .ok (.ifCond .eq 17, 3) := by decide +kernel
theorem dX3_isFraction_10 : decode cX3_isFraction 10 = .ok (.iload_n 1, 1) := by decide +kernel
theorem dX3_isFraction_11 : decode cX3_isFraction 11 = .ok (.iconst 1, 1) := by decide +kernel
theorem dX3_isFraction_12 : decode cX3_isFraction 12 = .ok (.ldc 179, 2) := by decide +kernel
theorem dX3_isFraction_14 : decode cX3_isFraction 14 = .ok (.invokestatic 76, 3) := by decide +kernel
theorem dX3_isFraction_17 : decode cX3_isFraction 17 = .ok (.ifCond .eq 7, 3) := by decide +kernel
theorem dX3_isFraction_20 : decode cX3_isFraction 20 = .ok (.iconst 1, 1) := by decide +kernel
theorem dX3_isFraction_21 : decode cX3_isFraction 21 = .ok (.goto 4, 3) := by decide +kernel
theorem dX3_isFraction_24 : decode cX3_isFraction 24 = .ok (.iconst 0, 1) := by decide +kernel
theorem dX3_isFraction_25 : decode cX3_isFraction 25 = .ok (.ireturn, 1) := by decide +kernel
set_option maxRecDepth 20000 in
theorem ggX3_ways_X3_beat : GoodIn wsX3_ways wsX3_beat := goodIn_r _ [9, 10, 11, 12, 13, 14, 8, 15, 16, 17, 18, 19, 3, 4, 20, 21, 22, 23, 24, 25, 26, 27, 28, 29, 30, 31, 32, 33, 34, 35, 36, 37, 38, 39, 40, 41, 42, 43, 44, 45, 46, 47, 48, 49, 50] (by decide +kernel) (by decide +kernel)
set_option maxRecDepth 20000 in
theorem gX3_ways_X3_beat : GoodIn wsX3_ways (wsV RX3 155 RX3 yX3_beat wsX3_beat) := goodIn_app (goodIn_of _ (by decide +kernel)) ggX3_ways_X3_beat
theorem dX3_ways_0 : decode cX3_ways 0 = .ok (.iconst 0, 1) := by decide +kernel
theorem dX3_ways_1 : decode cX3_ways 1 = .ok (.istore 5, 2) := by decide +kernel
theorem dX3_ways_3 : decode cX3_ways 3 = .ok (.iconst 0, 1) := by decide +kernel
theorem dX3_ways_4 : decode cX3_ways 4 = .ok (.istore 6, 2) := by decide +kernel
theorem dX3_ways_6 : decode cX3_ways 6 = .ok (.iload 6, 2) := by decide +kernel
theorem dX3_ways_8 : decode cX3_ways 8 = .ok (.aload_n 0, 1) := by decide +kernel
theorem dX3_ways_9 : decode cX3_ways 9 = .ok (.getfield 149, 3) := by decide +kernel
theorem dX3_ways_12 : decode cX3_ways 12 = .ok (.if_icmp .ge 96, 3) := by decide +kernel
theorem dX3_ways_15 : decode cX3_ways 15 = .ok (.iconst 0, 1) := by decide +kernel
theorem dX3_ways_16 : decode cX3_ways 16 = .ok (.istore 7, 2) := by decide +kernel
theorem dX3_ways_18 : decode cX3_ways 18 = .ok (.iload 7, 2) := by decide +kernel
theorem dX3_ways_20 : decode cX3_ways 20 = .ok (.aload_n 0, 1) := by decide +kernel
theorem dX3_ways_21 : decode cX3_ways 21 = .ok (.getfield 149, 3) := by decide +kernel
theorem dX3_ways_24 : decode cX3_ways 24 = .ok (.if_icmp .ge 78, 3) := by decide +kernel
theorem dX3_ways_27 : decode cX3_ways 27 = .ok (.aload_n 0, 1) := by decide +kernel
theorem dX3_ways_28 : decode cX3_ways 28 = .ok (.iload_n 1, 1) := by decide +kernel
theorem dX3_ways_29 : decode cX3_ways 29 = .ok (.aload_n 0, 1) := by decide +kernel
theorem dX3_ways_30 : decode cX3_ways 30 = .ok (.getfield 57, 3) := by decide +kernel
theorem dX3_ways_33 : decode cX3_ways 33 = .ok (.iload 6, 2) := by decide +kernel
theorem dX3_ways_35 : decode cX3_ways 35 = .ok (.iaload, 1) := by decide +kernel
theorem dX3_ways_36 : decode cX3_ways 36 = .ok (.aload_n 0, 1) := by decide +kernel
theorem dX3_ways_37 : decode cX3_ways 37 = .ok (.getfield 57, 3) := by decide +kernel
theorem dX3_ways_40 : decode cX3_ways 40 = .ok (.iload 7, 2) := by decide +kernel
theorem dX3_ways_42 : decode cX3_ways 42 = .ok (.iaload, 1) := by decide +kernel
theorem dX3_ways_43 : decode cX3_ways 43 = .ok (.invokevirtual 155, 3) := by decide +kernel
theorem dX3_ways_46 : decode cX3_ways 46 = .ok (.aload_n 0, 1) := by decide +kernel
theorem dX3_ways_47 : decode cX3_ways 47 = .ok (.getfield 90, 3) := by decide +kernel
theorem dX3_ways_50 : decode cX3_ways 50 = .ok (.iload_n 3, 1) := by decide +kernel
theorem dX3_ways_51 : decode cX3_ways 51 = .ok (.i2l, 1) := by decide +kernel
theorem dX3_ways_52 : decode cX3_ways 52 = .ok (.lmul, 1) := by decide +kernel
theorem dX3_ways_53 : decode cX3_ways 53 = .ok (.aload_n 0, 1) := by decide +kernel
theorem dX3_ways_54 : decode cX3_ways 54 = .ok (.getfield 94, 3) := by decide +kernel
theorem dX3_ways_57 : decode cX3_ways 57 = .ok (.iload_n 2, 1) := by decide +kernel
theorem dX3_ways_58 : decode cX3_ways 58 = .ok (.i2l, 1) := by decide +kernel
theorem dX3_ways_59 : decode cX3_ways 59 = .ok (.lmul, 1) := by decide +kernel
theorem dX3_ways_60 : decode cX3_ways 60 = .ok (.lcmp, 1) := by decide +kernel
theorem dX3_ways_61 : decode cX3_ways 61 = .ok (.ifCond .eq 6, 3) := by decide +kernel
theorem dX3_ways_64 : decode cX3_ways 64 = .ok (.goto 32, 3) := by decide +kernel
theorem dX3_ways_67 : decode cX3_ways 67 = .ok (.iload 5, 2) := by decide +kernel
theorem dX3_ways_69 : decode cX3_ways 69 = .ok (.iload 4, 2) := by decide +kernel
theorem dX3_ways_71 : decode cX3_ways 71 = .ok (.if_icmp .ne 22, 3) := by decide +kernel
theorem dX3_ways_74 : decode cX3_ways 74 = .ok (.bipush 100, 2) := by decide +kernel
theorem dX3_ways_76 : decode cX3_ways 76 = .ok (.aload_n 0, 1) := by decide +kernel
theorem dX3_ways_77 : decode cX3_ways 77 = .ok (.getfield 57, 3) := by decide +kernel
theorem dX3_ways_80 : decode cX3_ways 80 = .ok (.iload 6, 2) := by decide +kernel
theorem dX3_ways_82 : decode cX3_ways 82 = .ok (.iaload, 1) := by decide +kernel
theorem dX3_ways_83 : decode cX3_ways 83 = .ok (.imul, 1) := by decide +kernel
theorem dX3_ways_84 : decode cX3_ways 84 = .ok (.aload_n 0, 1) := by decide +kernel
theorem dX3_ways_85 : decode cX3_ways 85 = .ok (.getfield 57, 3) := by decide +kernel
theorem dX3_ways_88 : decode cX3_ways 88 = .ok (.iload 7, 2) := by decide +kernel
theorem dX3_ways_90 : decode cX3_ways 90 = .ok (.iaload, 1) := by decide +kernel
theorem dX3_ways_91 : decode cX3_ways 91 = .ok (.iadd, 1) := by decide +kernel
theorem dX3_ways_92 : decode cX3_ways 92 = .ok (.ireturn, 1) := by decide +kernel
theorem dX3_ways_93 : decode cX3_ways 93 = .ok (.iinc 5 1, 3) := by decide +kernel
theorem dX3_ways_96 : decode cX3_ways 96 = .ok (.iinc 7 1, 3) := by decide +kernel
theorem dX3_ways_99 : decode cX3_ways 99 = .ok (.goto (-81), 3) := by decide +kernel
theorem dX3_ways_102 : decode cX3_ways 102 = .ok (.iinc 6 1, 3) := by decide +kernel
theorem dX3_ways_105 : decode cX3_ways 105 = .ok (.goto (-99), 3) := by decide +kernel
theorem dX3_ways_108 : decode cX3_ways 108 = .ok (.iload 4, 2) := by decide +kernel
theorem dX3_ways_110 : decode cX3_ways 110 = .ok (.iconst (-1), 1) := by decide +kernel
theorem dX3_ways_111 : decode cX3_ways 111 = .ok (.if_icmp .ne 8, 3) := by decide +kernel
theorem dX3_ways_114 : decode cX3_ways 114 = .ok (.iload 5, 2) := by decide +kernel
theorem dX3_ways_116 : decode cX3_ways 116 = .ok (.goto 4, 3) := by decide +kernel
theorem dX3_ways_119 : decode cX3_ways 119 = .ok (.iconst (-1), 1) := by decide +kernel
theorem dX3_ways_120 : decode cX3_ways 120 = .ok (.ireturn, 1) := by decide +kernel
set_option maxRecDepth 20000 in
theorem ggX3_parts_X3_isCell : GoodIn wsX3_parts wsX3_isCell := goodIn_r _ [6, 7, 8, 9, 5, 10, 40, 41, 42, 43, 44, 45, 46, 47, 48, 49, 50, 51, 52, 53, 54, 55, 56, 57, 58, 59, 60, 61, 62, 63, 64, 65, 66, 67] (by decide +kernel) (by decide +kernel)
set_option maxRecDepth 20000 in
theorem gX3_parts_X3_isCell : GoodIn wsX3_parts (wsV RX3 97 RX3 yX3_isCell wsX3_isCell) := goodIn_app (goodIn_of _ (by decide +kernel)) ggX3_parts_X3_isCell
