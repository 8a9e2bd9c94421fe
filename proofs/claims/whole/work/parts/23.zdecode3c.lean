theorem dX3_isSo_178 : decode cX3_isSo 178 = .ok (.laload, 1) := by decide +kernel
theorem dX3_isSo_179 : decode cX3_isSo 179 = .ok (.lstore_n 3, 1) := by decide +kernel
theorem dX3_isSo_180 : decode cX3_isSo 180 = .ok (.aload_n 0, 1) := by decide +kernel
theorem dX3_isSo_181 : decode cX3_isSo 181 = .ok (.getfield 25, 3) := by decide +kernel
theorem dX3_isSo_184 : decode cX3_isSo 184 = .ok (.bipush 21, 2) := by decide +kernel
theorem dX3_isSo_186 : decode cX3_isSo 186 = .ok (.laload, 1) := by decide +kernel
theorem dX3_isSo_187 : decode cX3_isSo 187 = .ok (.lstore 5, 2) := by decide +kernel
theorem dX3_isSo_189 : decode cX3_isSo 189 = .ok (.iinc 8 1, 3) := by decide +kernel
theorem dX3_isSo_192 : decode cX3_isSo 192 = .ok (.goto (-150), 3) := by decide +kernel
theorem dX3_isSo_195 : decode cX3_isSo 195 = .ok (.aload_n 0, 1) := by decide +kernel
theorem dX3_isSo_196 : decode cX3_isSo 196 = .ok (.iconst 1, 1) := by decide +kernel
theorem dX3_isSo_197 : decode cX3_isSo 197 = .ok (.putfield 47, 3) := by decide +kernel
theorem dX3_isSo_200 : decode cX3_isSo 200 = .ok (.aload_n 0, 1) := by decide +kernel
theorem dX3_isSo_201 : decode cX3_isSo 201 = .ok (.getfield 32, 3) := by decide +kernel
theorem dX3_isSo_204 : decode cX3_isSo 204 = .ok (.aload_n 0, 1) := by decide +kernel
theorem dX3_isSo_205 : decode cX3_isSo 205 = .ok (.getfield 25, 3) := by decide +kernel
theorem dX3_isSo_208 : decode cX3_isSo 208 = .ok (.invokestatic 117, 3) := by decide +kernel
theorem dX3_isSo_211 : decode cX3_isSo 211 = .ok (.iload 7, 2) := by decide +kernel
theorem dX3_isSo_213 : decode cX3_isSo 213 = .ok (.ifCond .eq 15, 3) := by decide +kernel
theorem dX3_isSo_216 : decode cX3_isSo 216 = .ok (.iload_n 2, 1) := by decide +kernel
theorem dX3_isSo_217 : decode cX3_isSo 217 = .ok (.aload_n 0, 1) := by decide +kernel
theorem dX3_isSo_218 : decode cX3_isSo 218 = .ok (.getfield 152, 3) := by decide +kernel
theorem dX3_isSo_221 : decode cX3_isSo 221 = .ok (.if_icmp .le 7, 3) := by decide +kernel
theorem dX3_isSo_224 : decode cX3_isSo 224 = .ok (.iconst 1, 1) := by decide +kernel
theorem dX3_isSo_225 : decode cX3_isSo 225 = .ok (.goto 4, 3) := by decide +kernel
theorem dX3_isSo_228 : decode cX3_isSo 228 = .ok (.iconst 0, 1) := by decide +kernel
theorem dX3_isSo_229 : decode cX3_isSo 229 = .ok (.ireturn, 1) := by decide +kernel
set_option maxRecDepth 20000 in
theorem ggX3_explains_X3_isSo : GoodIn wsX3_explains wsX3_isSo := goodIn_r _ [7, 8, 9, 10, 11, 12, 13, 14, 15, 16, 17, 18, 19, 6, 20, 21, 22, 23, 24, 25, 26, 27, 28, 29, 30, 31, 1, 2, 32, 33, 34, 35, 36, 37, 38, 39, 40, 41, 42, 43, 44, 45, 46, 47, 48, 49, 50, 51, 52, 53, 54, 55, 56, 57, 58, 59, 60, 61, 62, 63, 64, 65, 66, 67, 68, 69, 70, 71, 72, 73, 74, 75, 76, 77, 78, 79, 80, 81, 82, 83, 84, 85, 86, 87, 88, 89, 90, 91, 92, 93, 94, 95, 96, 97, 98, 99, 100, 101, 102] (by decide +kernel) (by decide +kernel)
set_option maxRecDepth 20000 in
theorem gX3_explains_X3_isSo : GoodIn wsX3_explains (wsV RX3 187 RX3 yX3_isSo wsX3_isSo) := goodIn_app (goodIn_of _ (by decide +kernel)) ggX3_explains_X3_isSo
theorem dX3_explains_0 : decode cX3_explains 0 = .ok (.iload_n 3, 1) := by decide +kernel
theorem dX3_explains_1 : decode cX3_explains 1 = .ok (.ifCond .ne 12, 3) := by decide +kernel
theorem dX3_explains_4 : decode cX3_explains 4 = .ok (.aload_n 0, 1) := by decide +kernel
theorem dX3_explains_5 : decode cX3_explains 5 = .ok (.getfield 16, 3) := by decide +kernel
theorem dX3_explains_8 : decode cX3_explains 8 = .ok (.iload_n 2, 1) := by decide +kernel
theorem dX3_explains_9 : decode cX3_explains 9 = .ok (.iaload, 1) := by decide +kernel
theorem dX3_explains_10 : decode cX3_explains 10 = .ok (.goto 9, 3) := by decide +kernel
theorem dX3_explains_13 : decode cX3_explains 13 = .ok (.aload_n 0, 1) := by decide +kernel
theorem dX3_explains_14 : decode cX3_explains 14 = .ok (.getfield 19, 3) := by decide +kernel
theorem dX3_explains_17 : decode cX3_explains 17 = .ok (.iload_n 2, 1) := by decide +kernel
theorem dX3_explains_18 : decode cX3_explains 18 = .ok (.iaload, 1) := by decide +kernel
theorem dX3_explains_19 : decode cX3_explains 19 = .ok (.istore 5, 2) := by decide +kernel
theorem dX3_explains_21 : decode cX3_explains 21 = .ok (.iload 4, 2) := by decide +kernel
theorem dX3_explains_23 : decode cX3_explains 23 = .ok (.iload 5, 2) := by decide +kernel
theorem dX3_explains_25 : decode cX3_explains 25 = .ok (.if_icmp .ne 5, 3) := by decide +kernel
theorem dX3_explains_28 : decode cX3_explains 28 = .ok (.iconst 0, 1) := by decide +kernel
theorem dX3_explains_29 : decode cX3_explains 29 = .ok (.ireturn, 1) := by decide +kernel
theorem dX3_explains_30 : decode cX3_explains 30 = .ok (.iload_n 3, 1) := by decide +kernel
theorem dX3_explains_31 : decode cX3_explains 31 = .ok (.ifCond .ne 14, 3) := by decide +kernel
theorem dX3_explains_34 : decode cX3_explains 34 = .ok (.aload_n 0, 1) := by decide +kernel
theorem dX3_explains_35 : decode cX3_explains 35 = .ok (.getfield 16, 3) := by decide +kernel
theorem dX3_explains_38 : decode cX3_explains 38 = .ok (.iload_n 2, 1) := by decide +kernel
theorem dX3_explains_39 : decode cX3_explains 39 = .ok (.iload 4, 2) := by decide +kernel
theorem dX3_explains_41 : decode cX3_explains 41 = .ok (.iastore, 1) := by decide +kernel
theorem dX3_explains_42 : decode cX3_explains 42 = .ok (.goto 11, 3) := by decide +kernel
theorem dX3_explains_45 : decode cX3_explains 45 = .ok (.aload_n 0, 1) := by decide +kernel
theorem dX3_explains_46 : decode cX3_explains 46 = .ok (.getfield 19, 3) := by decide +kernel
theorem dX3_explains_49 : decode cX3_explains 49 = .ok (.iload_n 2, 1) := by decide +kernel
theorem dX3_explains_50 : decode cX3_explains 50 = .ok (.iload 4, 2) := by decide +kernel
theorem dX3_explains_52 : decode cX3_explains 52 = .ok (.iastore, 1) := by decide +kernel
theorem dX3_explains_53 : decode cX3_explains 53 = .ok (.aload_n 0, 1) := by decide +kernel
theorem dX3_explains_54 : decode cX3_explains 54 = .ok (.iload_n 1, 1) := by decide +kernel
theorem dX3_explains_55 : decode cX3_explains 55 = .ok (.invokevirtual 187, 3) := by decide +kernel
theorem dX3_explains_58 : decode cX3_explains 58 = .ok (.istore 6, 2) := by decide +kernel
theorem dX3_explains_60 : decode cX3_explains 60 = .ok (.iload_n 3, 1) := by decide +kernel
theorem dX3_explains_61 : decode cX3_explains 61 = .ok (.ifCond .ne 14, 3) := by decide +kernel
theorem dX3_explains_64 : decode cX3_explains 64 = .ok (.aload_n 0, 1) := by decide +kernel
theorem dX3_explains_65 : decode cX3_explains 65 = .ok (.getfield 16, 3) := by decide +kernel
theorem dX3_explains_68 : decode cX3_explains 68 = .ok (.iload_n 2, 1) := by decide +kernel
theorem dX3_explains_69 : decode cX3_explains 69 = .ok (.iload 5, 2) := by decide +kernel
theorem dX3_explains_71 : decode cX3_explains 71 = .ok (.iastore, 1) := by decide +kernel
theorem dX3_explains_72 : decode cX3_explains 72 = .ok (.goto 11, 3) := by decide +kernel
theorem dX3_explains_75 : decode cX3_explains 75 = .ok (.aload_n 0, 1) := by decide +kernel
theorem dX3_explains_76 : decode cX3_explains 76 = .ok (.getfield 19, 3) := by decide +kernel
theorem dX3_explains_79 : decode cX3_explains 79 = .ok (.iload_n 2, 1) := by decide +kernel
theorem dX3_explains_80 : decode cX3_explains 80 = .ok (.iload 5, 2) := by decide +kernel
theorem dX3_explains_82 : decode cX3_explains 82 = .ok (.iastore, 1) := by decide +kernel
theorem dX3_explains_83 : decode cX3_explains 83 = .ok (.iload 6, 2) := by decide +kernel
theorem dX3_explains_85 : decode cX3_explains 85 = .ok (.ireturn, 1) := by decide +kernel
set_option maxRecDepth 20000 in
theorem ggX3_explaining_X3_explains : GoodIn wsX3_explaining wsX3_explains := goodIn_r _ [8, 9, 10, 11, 12, 13, 7, 14, 15, 16, 17, 18, 19, 20, 21, 22, 23, 24, 25, 26, 27, 28, 29, 30, 31, 32, 33, 34, 35, 36, 1, 37, 38, 39, 40, 41, 42, 43, 44, 45, 46, 47, 48, 49, 50, 51, 52, 53, 54, 55, 56, 57, 58, 59, 60, 61, 62, 63, 64, 65, 66, 67, 68, 69, 70, 71, 72, 73, 74, 75, 76, 77, 78, 79, 80, 81, 82, 83, 84, 85, 86, 87, 88, 89, 90, 91, 92, 93, 94, 95, 96, 97, 98, 99, 100, 101, 102, 103, 104, 105, 106, 107, 108] (by decide +kernel) (by decide +kernel)
set_option maxRecDepth 20000 in
theorem gX3_explaining_X3_explains : GoodIn wsX3_explaining (wsV RX3 190 RX3 yX3_explains wsX3_explains) := goodIn_app (goodIn_of _ (by decide +kernel)) ggX3_explaining_X3_explains
theorem dX3_explaining_0 : decode cX3_explaining 0 = .ok (.iconst 0, 1) := by decide +kernel
theorem dX3_explaining_1 : decode cX3_explaining 1 = .ok (.istore_n 3, 1) := by decide +kernel
theorem dX3_explaining_2 : decode cX3_explaining 2 = .ok (.iconst 0, 1) := by decide +kernel
theorem dX3_explaining_3 : decode cX3_explaining 3 = .ok (.istore 4, 2) := by decide +kernel
theorem dX3_explaining_5 : decode cX3_explaining 5 = .ok (.iload 4, 2) := by decide +kernel
theorem dX3_explaining_7 : decode cX3_explaining 7 = .ok (.aload_n 0, 1) := by decide +kernel
theorem dX3_explaining_8 : decode cX3_explaining 8 = .ok (.getfield 73, 3) := by decide +kernel
theorem dX3_explaining_11 : decode cX3_explaining 11 = .ok (.if_icmp .ge 93, 3) := by decide +kernel
theorem dX3_explaining_14 : decode cX3_explaining 14 = .ok (.iconst 0, 1) := by decide +kernel
theorem dX3_explaining_15 : decode cX3_explaining 15 = .ok (.istore 5, 2) := by decide +kernel
theorem dX3_explaining_17 : decode cX3_explaining 17 = .ok (.iload 5, 2) := by decide +kernel
theorem dX3_explaining_19 : decode cX3_explaining 19 = .ok (.iconst 2, 1) := by decide +kernel
theorem dX3_explaining_20 : decode cX3_explaining 20 = .ok (.if_icmp .ge 78, 3) := by decide +kernel
theorem dX3_explaining_23 : decode cX3_explaining 23 = .ok (.iconst 0, 1) := by decide +kernel
theorem dX3_explaining_24 : decode cX3_explaining 24 = .ok (.istore 6, 2) := by decide +kernel
theorem dX3_explaining_26 : decode cX3_explaining 26 = .ok (.iload 6, 2) := by decide +kernel
theorem dX3_explaining_28 : decode cX3_explaining 28 = .ok (.aload_n 0, 1) := by decide +kernel
theorem dX3_explaining_29 : decode cX3_explaining 29 = .ok (.getfield 149, 3) := by decide +kernel
theorem dX3_explaining_32 : decode cX3_explaining 32 = .ok (.if_icmp .ge 60, 3) := by decide +kernel
theorem dX3_explaining_35 : decode cX3_explaining 35 = .ok (.aload_n 0, 1) := by decide +kernel
theorem dX3_explaining_36 : decode cX3_explaining 36 = .ok (.iload_n 1, 1) := by decide +kernel
theorem dX3_explaining_37 : decode cX3_explaining 37 = .ok (.iload 4, 2) := by decide +kernel
theorem dX3_explaining_39 : decode cX3_explaining 39 = .ok (.iload 5, 2) := by decide +kernel
theorem dX3_explaining_41 : decode cX3_explaining 41 = .ok (.aload_n 0, 1) := by decide +kernel
theorem dX3_explaining_42 : decode cX3_explaining 42 = .ok (.getfield 57, 3) := by decide +kernel
theorem dX3_explaining_45 : decode cX3_explaining 45 = .ok (.iload 6, 2) := by decide +kernel
theorem dX3_explaining_47 : decode cX3_explaining 47 = .ok (.iaload, 1) := by decide +kernel
theorem dX3_explaining_48 : decode cX3_explaining 48 = .ok (.invokevirtual 190, 3) := by decide +kernel
theorem dX3_explaining_51 : decode cX3_explaining 51 = .ok (.ifCond .ne 6, 3) := by decide +kernel
theorem dX3_explaining_54 : decode cX3_explaining 54 = .ok (.goto 32, 3) := by decide +kernel
theorem dX3_explaining_57 : decode cX3_explaining 57 = .ok (.iload_n 3, 1) := by decide +kernel
theorem dX3_explaining_58 : decode cX3_explaining 58 = .ok (.iload_n 2, 1) := by decide +kernel
theorem dX3_explaining_59 : decode cX3_explaining 59 = .ok (.if_icmp .ne 24, 3) := by decide +kernel
theorem dX3_explaining_62 : decode cX3_explaining 62 = .ok (.sipush 1000, 3) := by decide +kernel
theorem dX3_explaining_65 : decode cX3_explaining 65 = .ok (.iload 4, 2) := by decide +kernel
theorem dX3_explaining_67 : decode cX3_explaining 67 = .ok (.imul, 1) := by decide +kernel
theorem dX3_explaining_68 : decode cX3_explaining 68 = .ok (.bipush 100, 2) := by decide +kernel
theorem dX3_explaining_70 : decode cX3_explaining 70 = .ok (.iload 5, 2) := by decide +kernel
theorem dX3_explaining_72 : decode cX3_explaining 72 = .ok (.imul, 1) := by decide +kernel
theorem dX3_explaining_73 : decode cX3_explaining 73 = .ok (.iadd, 1) := by decide +kernel
theorem dX3_explaining_74 : decode cX3_explaining 74 = .ok (.aload_n 0, 1) := by decide +kernel
theorem dX3_explaining_75 : decode cX3_explaining 75 = .ok (.getfield 57, 3) := by decide +kernel
theorem dX3_explaining_78 : decode cX3_explaining 78 = .ok (.iload 6, 2) := by decide +kernel
theorem dX3_explaining_80 : decode cX3_explaining 80 = .ok (.iaload, 1) := by decide +kernel
theorem dX3_explaining_81 : decode cX3_explaining 81 = .ok (.iadd, 1) := by decide +kernel
theorem dX3_explaining_82 : decode cX3_explaining 82 = .ok (.ireturn, 1) := by decide +kernel
theorem dX3_explaining_83 : decode cX3_explaining 83 = .ok (.iinc 3 1, 3) := by decide +kernel
theorem dX3_explaining_86 : decode cX3_explaining 86 = .ok (.iinc 6 1, 3) := by decide +kernel
theorem dX3_explaining_89 : decode cX3_explaining 89 = .ok (.goto (-63), 3) := by decide +kernel
theorem dX3_explaining_92 : decode cX3_explaining 92 = .ok (.iinc 5 1, 3) := by decide +kernel
theorem dX3_explaining_95 : decode cX3_explaining 95 = .ok (.goto (-78), 3) := by decide +kernel
theorem dX3_explaining_98 : decode cX3_explaining 98 = .ok (.iinc 4 1, 3) := by decide +kernel
theorem dX3_explaining_101 : decode cX3_explaining 101 = .ok (.goto (-96), 3) := by decide +kernel
theorem dX3_explaining_104 : decode cX3_explaining 104 = .ok (.iload_n 2, 1) := by decide +kernel
theorem dX3_explaining_105 : decode cX3_explaining 105 = .ok (.iconst (-1), 1) := by decide +kernel
theorem dX3_explaining_106 : decode cX3_explaining 106 = .ok (.if_icmp .ne 7, 3) := by decide +kernel
theorem dX3_explaining_109 : decode cX3_explaining 109 = .ok (.iload_n 3, 1) := by decide +kernel
theorem dX3_explaining_110 : decode cX3_explaining 110 = .ok (.goto 4, 3) := by decide +kernel
theorem dX3_explaining_113 : decode cX3_explaining 113 = .ok (.iconst (-1), 1) := by decide +kernel
theorem dX3_explaining_114 : decode cX3_explaining 114 = .ok (.ireturn, 1) := by decide +kernel
set_option maxRecDepth 20000 in
theorem ggX3_faults_X3_isCell : GoodIn wsX3_faults wsX3_isCell := goodIn_r _ [6, 7, 8, 9, 5, 10, 93, 94, 95, 96, 97, 98, 99, 100, 101, 102, 103, 104, 105, 106, 107, 108, 109, 110, 111, 112, 113, 114, 115, 116, 117, 118, 119, 120] (by decide +kernel) (by decide +kernel)
set_option maxRecDepth 20000 in
theorem gX3_faults_X3_isCell : GoodIn wsX3_faults (wsV RX3 97 RX3 yX3_isCell wsX3_isCell) := goodIn_app (goodIn_of _ (by decide +kernel)) ggX3_faults_X3_isCell
set_option maxRecDepth 20000 in
theorem ggX3_faults_X3_explaining : GoodIn wsX3_faults wsX3_explaining := goodIn_r _ [14, 7, 15, 16, 17, 18, 19, 5, 20, 21, 22, 23, 24, 25, 26, 27, 28, 29, 30, 31, 32, 33, 34, 35, 36, 37, 38, 39, 40, 41, 42, 43, 44, 45, 46, 47, 48, 49, 50, 51, 52, 53, 54, 55, 56, 57, 58, 59, 60, 61, 62, 63, 64, 65, 66, 67, 68, 69, 70, 71, 72, 73, 74, 75, 76, 77, 78, 79, 80, 81, 82, 83, 84, 85, 86, 87, 88, 89, 90, 91, 92, 93, 94, 95, 96, 97, 98, 99, 100, 101, 102, 103, 104, 105, 106, 107, 108, 109, 110, 111, 112, 113, 114, 115, 116, 117, 118, 119, 120] (by decide +kernel) (by decide +kernel)
set_option maxRecDepth 20000 in
theorem gX3_faults_X3_explaining : GoodIn wsX3_faults (wsV RX3 194 RX3 yX3_explaining wsX3_explaining) := goodIn_app (goodIn_of _ (by decide +kernel)) ggX3_faults_X3_explaining
theorem dX3_faults_0 : decode cX3_faults 0 = .ok (.aload_n 0, 1) := by decide +kernel
theorem dX3_faults_1 : decode cX3_faults 1 = .ok (.iconst 0, 1) := by decide +kernel
theorem dX3_faults_2 : decode cX3_faults 2 = .ok (.putfield 69, 3) := by decide +kernel
theorem dX3_faults_5 : decode cX3_faults 5 = .ok (.aload_n 0, 1) := by decide +kernel
theorem dX3_faults_6 : decode cX3_faults 6 = .ok (.iload_n 1, 1) := by decide +kernel
theorem dX3_faults_7 : decode cX3_faults 7 = .ok (.invokevirtual 97, 3) := by decide +kernel
theorem dX3_faults_10 : decode cX3_faults 10 = .ok (.ifCond .eq 12, 3) := by decide +kernel
theorem dX3_faults_13 : decode cX3_faults 13 = .ok (.aload_n 0, 1) := by decide +kernel
theorem dX3_faults_14 : decode cX3_faults 14 = .ok (.iload_n 1, 1) := by decide +kernel
theorem dX3_faults_15 : decode cX3_faults 15 = .ok (.iconst (-1), 1) := by decide +kernel
theorem dX3_faults_16 : decode cX3_faults 16 = .ok (.invokevirtual 194, 3) := by decide +kernel
theorem dX3_faults_19 : decode cX3_faults 19 = .ok (.goto 4, 3) := by decide +kernel
theorem dX3_faults_22 : decode cX3_faults 22 = .ok (.iconst (-1), 1) := by decide +kernel
theorem dX3_faults_23 : decode cX3_faults 23 = .ok (.ireturn, 1) := by decide +kernel
set_option maxRecDepth 20000 in
theorem ggX3_fault_X3_isCell : GoodIn wsX3_fault wsX3_isCell := goodIn_r _ [6, 7, 8, 9, 5, 10, 93, 94, 95, 96, 97, 98, 99, 100, 101, 102, 103, 104, 105, 106, 107, 108, 109, 110, 111, 112, 113, 114, 115, 116, 117, 118, 119, 120] (by decide +kernel) (by decide +kernel)
set_option maxRecDepth 20000 in
theorem gX3_fault_X3_isCell : GoodIn wsX3_fault (wsV RX3 97 RX3 yX3_isCell wsX3_isCell) := goodIn_app (goodIn_of _ (by decide +kernel)) ggX3_fault_X3_isCell
set_option maxRecDepth 20000 in
theorem ggX3_fault_X3_explaining : GoodIn wsX3_fault wsX3_explaining := goodIn_r _ [14, 7, 15, 16, 17, 18, 19, 5, 20, 21, 22, 23, 24, 25, 26, 27, 28, 29, 30, 31, 32, 33, 34, 35, 36, 37, 38, 39, 40, 41, 42, 43, 44, 45, 46, 47, 48, 49, 50, 51, 52, 53, 54, 55, 56, 57, 58, 59, 60, 61, 62, 63, 64, 65, 66, 67, 68, 69, 70, 71, 72, 73, 74, 75, 76, 77, 78, 79, 80, 81, 82, 83, 84, 85, 86, 87, 88, 89, 90, 91, 92, 93, 94, 95, 96, 97, 98, 99, 100, 101, 102, 103, 104, 105, 106, 107, 108, 109, 110, 111, 112, 113, 114, 115, 116, 117, 118, 119, 120] (by decide +kernel) (by decide +kernel)
set_option maxRecDepth 20000 in
theorem gX3_fault_X3_explaining : GoodIn wsX3_fault (wsV RX3 194 RX3 yX3_explaining wsX3_explaining) := goodIn_app (goodIn_of _ (by decide +kernel)) ggX3_fault_X3_explaining
theorem dX3_fault_0 : decode cX3_fault 0 = .ok (.aload_n 0, 1) := by decide +kernel
theorem dX3_fault_1 : decode cX3_fault 1 = .ok (.iconst 0, 1) := by decide +kernel
theorem dX3_fault_2 : decode cX3_fault 2 = .ok (.putfield 69, 3) := by decide +kernel
theorem dX3_fault_5 : decode cX3_fault 5 = .ok (.aload_n 0, 1) := by decide +kernel
theorem dX3_fault_6 : decode cX3_fault 6 = .ok (.iload_n 1, 1) := by decide +kernel
theorem dX3_fault_7 : decode cX3_fault 7 = .ok (.invokevirtual 97, 3) := by decide +kernel
theorem dX3_fault_10 : decode cX3_fault 10 = .ok (.ifCond .eq 16, 3) := by decide +kernel
theorem dX3_fault_13 : decode cX3_fault 13 = .ok (.iload_n 2, 1) := by decide +kernel
theorem dX3_fault_14 : decode cX3_fault 14 = .ok (.ifCond .lt 12, 3) := by decide +kernel
theorem dX3_fault_17 : decode cX3_fault 17 = .ok (.aload_n 0, 1) := by decide +kernel
theorem dX3_fault_18 : decode cX3_fault 18 = .ok (.iload_n 1, 1) := by decide +kernel
theorem dX3_fault_19 : decode cX3_fault 19 = .ok (.iload_n 2, 1) := by decide +kernel
theorem dX3_fault_20 : decode cX3_fault 20 = .ok (.invokevirtual 194, 3) := by decide +kernel
theorem dX3_fault_23 : decode cX3_fault 23 = .ok (.goto 4, 3) := by decide +kernel
theorem dX3_fault_26 : decode cX3_fault 26 = .ok (.iconst (-1), 1) := by decide +kernel
theorem dX3_fault_27 : decode cX3_fault 27 = .ok (.ireturn, 1) := by decide +kernel
set_option maxRecDepth 20000 in
theorem ggX3_fits_X3_isCell : GoodIn wsX3_fits wsX3_isCell := goodIn_r _ [6, 7, 8, 9, 5, 10, 83, 84, 85, 86, 87, 88, 89, 90, 91, 92, 93, 94, 95, 96, 97, 98, 99, 100, 101, 102, 103, 104, 105, 106, 107, 108, 109, 110] (by decide +kernel) (by decide +kernel)
set_option maxRecDepth 20000 in
theorem gX3_fits_X3_isCell : GoodIn wsX3_fits (wsV RX3 97 RX3 yX3_isCell wsX3_isCell) := goodIn_app (goodIn_of _ (by decide +kernel)) ggX3_fits_X3_isCell
set_option maxRecDepth 20000 in
theorem ggX3_fits_X3_isSo : GoodIn wsX3_fits wsX3_isSo := goodIn_r _ [14, 15, 16, 17, 18, 19, 20, 21, 22, 23, 24, 25, 26, 5, 27, 28, 29, 30, 31, 32, 33, 34, 35, 36, 7, 37, 38, 39, 40, 41, 42, 43, 44, 45, 46, 47, 48, 49, 50, 51, 52, 53, 54, 55, 56, 57, 58, 59, 60, 61, 62, 63, 64, 65, 66, 67, 68, 69, 70, 71, 72, 73, 74, 75, 76, 77, 78, 79, 80, 81, 82, 83, 84, 85, 86, 87, 88, 89, 90, 91, 92, 93, 94, 95, 96, 97, 98, 99, 100, 101, 102, 103, 104, 105, 106, 107, 108, 109, 110] (by decide +kernel) (by decide +kernel)
set_option maxRecDepth 20000 in
theorem gX3_fits_X3_isSo : GoodIn wsX3_fits (wsV RX3 187 RX3 yX3_isSo wsX3_isSo) := goodIn_app (goodIn_of _ (by decide +kernel)) ggX3_fits_X3_isSo
theorem dX3_fits_0 : decode cX3_fits 0 = .ok (.aload_n 0, 1) := by decide +kernel
theorem dX3_fits_1 : decode cX3_fits 1 = .ok (.iconst 0, 1) := by decide +kernel
theorem dX3_fits_2 : decode cX3_fits 2 = .ok (.putfield 69, 3) := by decide +kernel
theorem dX3_fits_5 : decode cX3_fits 5 = .ok (.aload_n 0, 1) := by decide +kernel
theorem dX3_fits_6 : decode cX3_fits 6 = .ok (.iload_n 1, 1) := by decide +kernel
theorem dX3_fits_7 : decode cX3_fits 7 = .ok (.invokevirtual 97, 3) := by decide +kernel
theorem dX3_fits_10 : decode cX3_fits 10 = .ok (.ifCond .eq 19, 3) := by decide +kernel
theorem dX3_fits_13 : decode cX3_fits 13 = .ok (.aload_n 0, 1) := by decide +kernel
theorem dX3_fits_14 : decode cX3_fits 14 = .ok (.iload_n 1, 1) := by decide +kernel
theorem dX3_fits_15 : decode cX3_fits 15 = .ok (.invokevirtual 187, 3) := by decide +kernel
theorem dX3_fits_18 : decode cX3_fits 18 = .ok (.ifCond .eq 7, 3) := by decide +kernel
theorem dX3_fits_21 : decode cX3_fits 21 = .ok (.iconst 1, 1) := by decide +kernel
theorem dX3_fits_22 : decode cX3_fits 22 = .ok (.goto 8, 3) := by decide +kernel
theorem dX3_fits_25 : decode cX3_fits 25 = .ok (.iconst 0, 1) := by decide +kernel
theorem dX3_fits_26 : decode cX3_fits 26 = .ok (.goto 4, 3) := by decide +kernel
theorem dX3_fits_29 : decode cX3_fits 29 = .ok (.iconst (-1), 1) := by decide +kernel
theorem dX3_fits_30 : decode cX3_fits 30 = .ok (.ireturn, 1) := by decide +kernel
theorem dJ9_abs_067f4_0 : decode cJ9_abs_067f4 0 = .ok (.lload_n 0, 1) := by decide +kernel
theorem dJ9_abs_067f4_1 : decode cJ9_abs_067f4 1 = .ok (.lconst 0, 1) := by decide +kernel
theorem dJ9_abs_067f4_2 : decode cJ9_abs_067f4 2 = .ok (.lcmp, 1) := by decide +kernel
theorem dJ9_abs_067f4_3 : decode cJ9_abs_067f4 3 = .ok (.ifCond .ge 8, 3) := by decide +kernel
theorem dJ9_abs_067f4_6 : decode cJ9_abs_067f4 6 = .ok (.lload_n 0, 1) := by decide +kernel
theorem dJ9_abs_067f4_7 : decode cJ9_abs_067f4 7 = .ok (.lneg, 1) := by decide +kernel
theorem dJ9_abs_067f4_8 : decode cJ9_abs_067f4 8 = .ok (.goto 4, 3) := by decide +kernel
theorem dJ9_abs_067f4_11 : decode cJ9_abs_067f4 11 = .ok (.lload_n 0, 1) := by decide +kernel
theorem dJ9_abs_067f4_12 : decode cJ9_abs_067f4 12 = .ok (.lreturn, 1) := by decide +kernel
set_option maxRecDepth 20000 in
theorem ggL_of_X2_of : GoodIn wsL_of wsX2_of := goodIn_ca (goodIn_r _ [6, 7, 8, 9, 10, 11, 12, 13, 14, 15, 16, 17, 5, 18, 19, 20, 21, 22, 23, 24, 25, 26, 27, 28, 29, 30, 31, 32, 33, 34, 35, 36, 37, 38, 39, 40, 41, 42, 43, 44, 45, 46, 47, 48, 49, 50, 51, 52, 53, 54, 55, 56, 57, 58, 59, 60, 61, 62, 63, 64, 65, 66, 67, 68, 69, 70, 71, 72, 73, 74, 75] (by decide +kernel) (by decide +kernel)) (goodIn_sub (fun _ h => List.mem_cons_of_mem _ (List.mem_append_right _ h)) (List.all_eq_true.mpr (fun w h => (List.mem_filter.mp h).2)))
set_option maxRecDepth 20000 in
theorem gL_of_X2_of : GoodIn wsL_of (wsV RL 7 RX2 yX2_of wsX2_of) := goodIn_app (goodIn_r _ [2, 3, 4, 5] (by decide +kernel) (by decide +kernel)) ggL_of_X2_of
theorem dL_of_0 : decode cL_of 0 = .ok (.aload_n 3, 1) := by decide +kernel
theorem dL_of_1 : decode cL_of 1 = .ok (.iconst 0, 1) := by decide +kernel
theorem dL_of_2 : decode cL_of 2 = .ok (.aload_n 0, 1) := by decide +kernel
theorem dL_of_3 : decode cL_of 3 = .ok (.iload_n 1, 1) := by decide +kernel
theorem dL_of_4 : decode cL_of 4 = .ok (.iload_n 2, 1) := by decide +kernel
