theorem dX3_cell_124 : decode cX3_cell 124 = .ok (.ireturn, 1) := by decide +kernel
set_option maxRecDepth 20000 in
theorem ggX3_link_X3_isCell : GoodIn wsX3_link wsX3_isCell := goodIn_r _ [9, 10, 11, 12, 8, 13, 20, 21, 22, 23, 24, 25, 26, 27, 28, 29, 30, 31, 32, 33, 34, 35, 36, 37, 38, 39, 40, 41, 42, 43, 44, 45, 46, 47] (by decide +kernel) (by decide +kernel)
set_option maxRecDepth 20000 in
theorem gX3_link_X3_isCell : GoodIn wsX3_link (wsV RX3 97 RX3 yX3_isCell wsX3_isCell) := goodIn_app (goodIn_of _ (by decide +kernel)) ggX3_link_X3_isCell
set_option maxRecDepth 20000 in
theorem ggX3_link_X3_in : GoodIn wsX3_link wsX3_in := goodIn_r _ [13] (by decide +kernel) (by decide +kernel)
set_option maxRecDepth 20000 in
theorem gX3_link_X3_in : GoodIn wsX3_link (va_wsS RX3 76 yX3_in wsX3_in) := goodIn_app (goodIn_of _ (by decide +kernel)) ggX3_link_X3_in
set_option maxRecDepth 20000 in
theorem ggX3_link_X3_resetAll : GoodIn wsX3_link wsX3_resetAll := goodIn_r _ [17, 18, 19, 20, 21, 22, 23, 24, 25, 26, 27, 28, 29, 30, 31, 32, 33, 34, 35, 36, 37, 38, 39, 40, 41, 42, 43, 44, 45, 46, 47] (by decide +kernel) (by decide +kernel)
set_option maxRecDepth 20000 in
theorem gX3_link_X3_resetAll : GoodIn wsX3_link (wsV RX3 66 RX3 yX3_resetAll wsX3_resetAll) := goodIn_app (goodIn_of _ (by decide +kernel)) ggX3_link_X3_resetAll
theorem dX3_link_0 : decode cX3_link 0 = .ok (.aload_n 0, 1) := by decide +kernel
theorem dX3_link_1 : decode cX3_link 1 = .ok (.iconst 0, 1) := by decide +kernel
theorem dX3_link_2 : decode cX3_link 2 = .ok (.putfield 69, 3) := by decide +kernel
theorem dX3_link_5 : decode cX3_link 5 = .ok (.aload_n 0, 1) := by decide +kernel
theorem dX3_link_6 : decode cX3_link 6 = .ok (.iload_n 1, 1) := by decide +kernel
theorem dX3_link_7 : decode cX3_link 7 = .ok (.invokevirtual 97, 3) := by decide +kernel
theorem dX3_link_10 : decode cX3_link 10 = .ok (.ifCond .eq 50, 3) := by decide +kernel
theorem dX3_link_13 : decode cX3_link 13 = .ok (.iload_n 2, 1) := by decide +kernel
theorem dX3_link_14 : decode cX3_link 14 = .ok (.iconst 0, 1) := by decide +kernel
theorem dX3_link_15 : decode cX3_link 15 = .ok (.iconst 1, 1) := by decide +kernel
theorem dX3_link_16 : decode cX3_link 16 = .ok (.invokestatic 76, 3) := by decide +kernel
theorem dX3_link_19 : decode cX3_link 19 = .ok (.ifCond .eq 41, 3) := by decide +kernel
theorem dX3_link_22 : decode cX3_link 22 = .ok (.iload_n 3, 1) := by decide +kernel
theorem dX3_link_23 : decode cX3_link 23 = .ok (.iconst 1, 1) := by decide +kernel
theorem dX3_link_24 : decode cX3_link 24 = .ok (.bipush 9, 2) := by decide +kernel
theorem dX3_link_26 : decode cX3_link 26 = .ok (.invokestatic 76, 3) := by decide +kernel
theorem dX3_link_29 : decode cX3_link 29 = .ok (.ifCond .eq 31, 3) := by decide +kernel
theorem dX3_link_32 : decode cX3_link 32 = .ok (.aload_n 0, 1) := by decide +kernel
theorem dX3_link_33 : decode cX3_link 33 = .ok (.iload 4, 2) := by decide +kernel
theorem dX3_link_35 : decode cX3_link 35 = .ok (.invokevirtual 97, 3) := by decide +kernel
theorem dX3_link_38 : decode cX3_link 38 = .ok (.ifCond .eq 22, 3) := by decide +kernel
theorem dX3_link_41 : decode cX3_link 41 = .ok (.iload 5, 2) := by decide +kernel
theorem dX3_link_43 : decode cX3_link 43 = .ok (.iconst 0, 1) := by decide +kernel
theorem dX3_link_44 : decode cX3_link 44 = .ok (.iconst 2, 1) := by decide +kernel
theorem dX3_link_45 : decode cX3_link 45 = .ok (.invokestatic 76, 3) := by decide +kernel
theorem dX3_link_48 : decode cX3_link 48 = .ok (.ifCond .eq 12, 3) := by decide +kernel
theorem dX3_link_51 : decode cX3_link 51 = .ok (.aload_n 0, 1) := by decide +kernel
theorem dX3_link_52 : decode cX3_link 52 = .ok (.getfield 101, 3) := by decide +kernel
theorem dX3_link_55 : decode cX3_link 55 = .ok (.bipush 8, 2) := by decide +kernel
theorem dX3_link_57 : decode cX3_link 57 = .ok (.if_icmp .ne 5, 3) := by decide +kernel
theorem dX3_link_60 : decode cX3_link 60 = .ok (.iconst (-1), 1) := by decide +kernel
theorem dX3_link_61 : decode cX3_link 61 = .ok (.ireturn, 1) := by decide +kernel
theorem dX3_link_62 : decode cX3_link 62 = .ok (.iload 5, 2) := by decide +kernel
theorem dX3_link_64 : decode cX3_link 64 = .ok (.ifCond .ne 15, 3) := by decide +kernel
theorem dX3_link_67 : decode cX3_link 67 = .ok (.iload 6, 2) := by decide +kernel
theorem dX3_link_69 : decode cX3_link 69 = .ok (.bipush (-20), 2) := by decide +kernel
theorem dX3_link_71 : decode cX3_link 71 = .ok (.bipush 20, 2) := by decide +kernel
theorem dX3_link_73 : decode cX3_link 73 = .ok (.invokestatic 76, 3) := by decide +kernel
theorem dX3_link_76 : decode cX3_link 76 = .ok (.ifCond .eq 19, 3) := by decide +kernel
theorem dX3_link_79 : decode cX3_link 79 = .ok (.iload 5, 2) := by decide +kernel
theorem dX3_link_81 : decode cX3_link 81 = .ok (.iconst 2, 1) := by decide +kernel
theorem dX3_link_82 : decode cX3_link 82 = .ok (.if_icmp .ne 15, 3) := by decide +kernel
theorem dX3_link_85 : decode cX3_link 85 = .ok (.iload 6, 2) := by decide +kernel
theorem dX3_link_87 : decode cX3_link 87 = .ok (.iconst 0, 1) := by decide +kernel
theorem dX3_link_88 : decode cX3_link 88 = .ok (.iconst 1, 1) := by decide +kernel
theorem dX3_link_89 : decode cX3_link 89 = .ok (.invokestatic 76, 3) := by decide +kernel
theorem dX3_link_92 : decode cX3_link 92 = .ok (.ifCond .ne 5, 3) := by decide +kernel
theorem dX3_link_95 : decode cX3_link 95 = .ok (.iconst (-1), 1) := by decide +kernel
theorem dX3_link_96 : decode cX3_link 96 = .ok (.ireturn, 1) := by decide +kernel
theorem dX3_link_97 : decode cX3_link 97 = .ok (.bipush 6, 2) := by decide +kernel
theorem dX3_link_99 : decode cX3_link 99 = .ok (.newarray .int, 2) := by decide +kernel
theorem dX3_link_101 : decode cX3_link 101 = .ok (.dup, 1) := by decide +kernel
theorem dX3_link_102 : decode cX3_link 102 = .ok (.iconst 0, 1) := by decide +kernel
theorem dX3_link_103 : decode cX3_link 103 = .ok (.iload_n 1, 1) := by decide +kernel
theorem dX3_link_104 : decode cX3_link 104 = .ok (.iastore, 1) := by decide +kernel
theorem dX3_link_105 : decode cX3_link 105 = .ok (.dup, 1) := by decide +kernel
theorem dX3_link_106 : decode cX3_link 106 = .ok (.iconst 1, 1) := by decide +kernel
theorem dX3_link_107 : decode cX3_link 107 = .ok (.iload_n 2, 1) := by decide +kernel
theorem dX3_link_108 : decode cX3_link 108 = .ok (.iastore, 1) := by decide +kernel
theorem dX3_link_109 : decode cX3_link 109 = .ok (.dup, 1) := by decide +kernel
theorem dX3_link_110 : decode cX3_link 110 = .ok (.iconst 2, 1) := by decide +kernel
theorem dX3_link_111 : decode cX3_link 111 = .ok (.iload_n 3, 1) := by decide +kernel
theorem dX3_link_112 : decode cX3_link 112 = .ok (.iastore, 1) := by decide +kernel
theorem dX3_link_113 : decode cX3_link 113 = .ok (.dup, 1) := by decide +kernel
theorem dX3_link_114 : decode cX3_link 114 = .ok (.iconst 3, 1) := by decide +kernel
theorem dX3_link_115 : decode cX3_link 115 = .ok (.iload 4, 2) := by decide +kernel
theorem dX3_link_117 : decode cX3_link 117 = .ok (.iastore, 1) := by decide +kernel
theorem dX3_link_118 : decode cX3_link 118 = .ok (.dup, 1) := by decide +kernel
theorem dX3_link_119 : decode cX3_link 119 = .ok (.iconst 4, 1) := by decide +kernel
theorem dX3_link_120 : decode cX3_link 120 = .ok (.iload 5, 2) := by decide +kernel
theorem dX3_link_122 : decode cX3_link 122 = .ok (.iastore, 1) := by decide +kernel
theorem dX3_link_123 : decode cX3_link 123 = .ok (.dup, 1) := by decide +kernel
theorem dX3_link_124 : decode cX3_link 124 = .ok (.iconst 5, 1) := by decide +kernel
theorem dX3_link_125 : decode cX3_link 125 = .ok (.iload 6, 2) := by decide +kernel
theorem dX3_link_127 : decode cX3_link 127 = .ok (.iastore, 1) := by decide +kernel
theorem dX3_link_128 : decode cX3_link 128 = .ok (.astore 7, 2) := by decide +kernel
theorem dX3_link_130 : decode cX3_link 130 = .ok (.iconst 0, 1) := by decide +kernel
theorem dX3_link_131 : decode cX3_link 131 = .ok (.istore 8, 2) := by decide +kernel
theorem dX3_link_133 : decode cX3_link 133 = .ok (.iload 8, 2) := by decide +kernel
theorem dX3_link_135 : decode cX3_link 135 = .ok (.bipush 6, 2) := by decide +kernel
theorem dX3_link_137 : decode cX3_link 137 = .ok (.if_icmp .ge 29, 3) := by decide +kernel
theorem dX3_link_140 : decode cX3_link 140 = .ok (.aload_n 0, 1) := by decide +kernel
theorem dX3_link_141 : decode cX3_link 141 = .ok (.getfield 22, 3) := by decide +kernel
theorem dX3_link_144 : decode cX3_link 144 = .ok (.bipush 6, 2) := by decide +kernel
theorem dX3_link_146 : decode cX3_link 146 = .ok (.aload_n 0, 1) := by decide +kernel
theorem dX3_link_147 : decode cX3_link 147 = .ok (.getfield 101, 3) := by decide +kernel
theorem dX3_link_150 : decode cX3_link 150 = .ok (.imul, 1) := by decide +kernel
theorem dX3_link_151 : decode cX3_link 151 = .ok (.iload 8, 2) := by decide +kernel
theorem dX3_link_153 : decode cX3_link 153 = .ok (.iadd, 1) := by decide +kernel
theorem dX3_link_154 : decode cX3_link 154 = .ok (.aload 7, 2) := by decide +kernel
theorem dX3_link_156 : decode cX3_link 156 = .ok (.iload 8, 2) := by decide +kernel
theorem dX3_link_158 : decode cX3_link 158 = .ok (.iaload, 1) := by decide +kernel
theorem dX3_link_159 : decode cX3_link 159 = .ok (.iastore, 1) := by decide +kernel
theorem dX3_link_160 : decode cX3_link 160 = .ok (.iinc 8 1, 3) := by decide +kernel
theorem dX3_link_163 : decode cX3_link 163 = .ok (.goto (-30), 3) := by decide +kernel
theorem dX3_link_166 : decode cX3_link 166 = .ok (.aload_n 0, 1) := by decide +kernel
theorem dX3_link_167 : decode cX3_link 167 = .ok (.dup, 1) := by decide +kernel
theorem dX3_link_168 : decode cX3_link 168 = .ok (.getfield 101, 3) := by decide +kernel
theorem dX3_link_171 : decode cX3_link 171 = .ok (.iconst 1, 1) := by decide +kernel
theorem dX3_link_172 : decode cX3_link 172 = .ok (.iadd, 1) := by decide +kernel
theorem dX3_link_173 : decode cX3_link 173 = .ok (.putfield 101, 3) := by decide +kernel
theorem dX3_link_176 : decode cX3_link 176 = .ok (.aload_n 0, 1) := by decide +kernel
theorem dX3_link_177 : decode cX3_link 177 = .ok (.invokevirtual 66, 3) := by decide +kernel
theorem dX3_link_180 : decode cX3_link 180 = .ok (.aload_n 0, 1) := by decide +kernel
theorem dX3_link_181 : decode cX3_link 181 = .ok (.getfield 101, 3) := by decide +kernel
theorem dX3_link_184 : decode cX3_link 184 = .ok (.iconst 1, 1) := by decide +kernel
theorem dX3_link_185 : decode cX3_link 185 = .ok (.isub, 1) := by decide +kernel
theorem dX3_link_186 : decode cX3_link 186 = .ok (.ireturn, 1) := by decide +kernel
set_option maxRecDepth 20000 in
theorem ggX3_clear_X3_resetAll : GoodIn wsX3_clear wsX3_resetAll := goodIn_r _ [8, 9, 10, 11, 12, 13, 14, 15, 16, 17, 18, 19, 20, 21, 22, 23, 24, 25, 26, 27, 28, 29, 30, 31, 32, 33, 34, 35, 36, 37, 38] (by decide +kernel) (by decide +kernel)
set_option maxRecDepth 20000 in
theorem gX3_clear_X3_resetAll : GoodIn wsX3_clear (wsV RX3 66 RX3 yX3_resetAll wsX3_resetAll) := goodIn_app (goodIn_of _ (by decide +kernel)) ggX3_clear_X3_resetAll
theorem dX3_clear_0 : decode cX3_clear 0 = .ok (.aload_n 0, 1) := by decide +kernel
theorem dX3_clear_1 : decode cX3_clear 1 = .ok (.iconst 0, 1) := by decide +kernel
theorem dX3_clear_2 : decode cX3_clear 2 = .ok (.putfield 69, 3) := by decide +kernel
theorem dX3_clear_5 : decode cX3_clear 5 = .ok (.aload_n 0, 1) := by decide +kernel
theorem dX3_clear_6 : decode cX3_clear 6 = .ok (.getfield 73, 3) := by decide +kernel
theorem dX3_clear_9 : decode cX3_clear 9 = .ok (.istore_n 1, 1) := by decide +kernel
theorem dX3_clear_10 : decode cX3_clear 10 = .ok (.aload_n 0, 1) := by decide +kernel
theorem dX3_clear_11 : decode cX3_clear 11 = .ok (.iconst 0, 1) := by decide +kernel
theorem dX3_clear_12 : decode cX3_clear 12 = .ok (.putfield 73, 3) := by decide +kernel
theorem dX3_clear_15 : decode cX3_clear 15 = .ok (.aload_n 0, 1) := by decide +kernel
theorem dX3_clear_16 : decode cX3_clear 16 = .ok (.iconst 0, 1) := by decide +kernel
theorem dX3_clear_17 : decode cX3_clear 17 = .ok (.putfield 101, 3) := by decide +kernel
theorem dX3_clear_20 : decode cX3_clear 20 = .ok (.aload_n 0, 1) := by decide +kernel
theorem dX3_clear_21 : decode cX3_clear 21 = .ok (.invokevirtual 66, 3) := by decide +kernel
theorem dX3_clear_24 : decode cX3_clear 24 = .ok (.iload_n 1, 1) := by decide +kernel
theorem dX3_clear_25 : decode cX3_clear 25 = .ok (.ireturn, 1) := by decide +kernel
set_option maxRecDepth 20000 in
theorem ggX3_reset_X3_resetAll : GoodIn wsX3_reset wsX3_resetAll := goodIn_r _ [7, 2, 8, 9, 10, 11, 12, 13, 14, 15, 16, 17, 18, 19, 20, 21, 22, 23, 24, 25, 26, 27, 28, 29, 30, 31, 32, 33, 34, 35, 36] (by decide +kernel) (by decide +kernel)
set_option maxRecDepth 20000 in
theorem gX3_reset_X3_resetAll : GoodIn wsX3_reset (wsV RX3 66 RX3 yX3_resetAll wsX3_resetAll) := goodIn_app (goodIn_of _ (by decide +kernel)) ggX3_reset_X3_resetAll
theorem dX3_reset_0 : decode cX3_reset 0 = .ok (.aload_n 0, 1) := by decide +kernel
theorem dX3_reset_1 : decode cX3_reset 1 = .ok (.iconst 0, 1) := by decide +kernel
theorem dX3_reset_2 : decode cX3_reset 2 = .ok (.putfield 69, 3) := by decide +kernel
theorem dX3_reset_5 : decode cX3_reset 5 = .ok (.aload_n 0, 1) := by decide +kernel
theorem dX3_reset_6 : decode cX3_reset 6 = .ok (.getfield 25, 3) := by decide +kernel
theorem dX3_reset_9 : decode cX3_reset 9 = .ok (.bipush 30, 2) := by decide +kernel
theorem dX3_reset_11 : decode cX3_reset 11 = .ok (.laload, 1) := by decide +kernel
theorem dX3_reset_12 : decode cX3_reset 12 = .ok (.l2i, 1) := by decide +kernel
theorem dX3_reset_13 : decode cX3_reset 13 = .ok (.istore_n 1, 1) := by decide +kernel
theorem dX3_reset_14 : decode cX3_reset 14 = .ok (.aload_n 0, 1) := by decide +kernel
theorem dX3_reset_15 : decode cX3_reset 15 = .ok (.invokevirtual 66, 3) := by decide +kernel
theorem dX3_reset_18 : decode cX3_reset 18 = .ok (.iload_n 1, 1) := by decide +kernel
theorem dX3_reset_19 : decode cX3_reset 19 = .ok (.ireturn, 1) := by decide +kernel
set_option maxRecDepth 20000 in
theorem ggX3_set_X3_isCell : GoodIn wsX3_set wsX3_isCell := goodIn_r _ [8, 9, 10, 11, 7, 12, 19, 20, 21, 22, 23, 24, 25, 26, 27, 28, 29, 30, 31, 32, 33, 34, 35, 36, 37, 38, 39, 40, 41, 42, 43, 44, 45, 46] (by decide +kernel) (by decide +kernel)
set_option maxRecDepth 20000 in
theorem gX3_set_X3_isCell : GoodIn wsX3_set (wsV RX3 97 RX3 yX3_isCell wsX3_isCell) := goodIn_app (goodIn_of _ (by decide +kernel)) ggX3_set_X3_isCell
set_option maxRecDepth 20000 in
theorem ggX3_set_X3_in : GoodIn wsX3_set wsX3_in := goodIn_r _ [12] (by decide +kernel) (by decide +kernel)
set_option maxRecDepth 20000 in
theorem gX3_set_X3_in : GoodIn wsX3_set (va_wsS RX3 76 yX3_in wsX3_in) := goodIn_app (goodIn_of _ (by decide +kernel)) ggX3_set_X3_in
set_option maxRecDepth 20000 in
theorem ggX3_set_X3_resetAll : GoodIn wsX3_set wsX3_resetAll := goodIn_r _ [16, 17, 18, 19, 20, 21, 22, 23, 24, 25, 26, 27, 28, 29, 30, 31, 32, 33, 34, 35, 36, 37, 38, 39, 40, 41, 42, 43, 44, 45, 46] (by decide +kernel) (by decide +kernel)
set_option maxRecDepth 20000 in
theorem gX3_set_X3_resetAll : GoodIn wsX3_set (wsV RX3 66 RX3 yX3_resetAll wsX3_resetAll) := goodIn_app (goodIn_of _ (by decide +kernel)) ggX3_set_X3_resetAll
theorem dX3_set_0 : decode cX3_set 0 = .ok (.aload_n 0, 1) := by decide +kernel
theorem dX3_set_1 : decode cX3_set 1 = .ok (.iconst 0, 1) := by decide +kernel
theorem dX3_set_2 : decode cX3_set 2 = .ok (.putfield 69, 3) := by decide +kernel
theorem dX3_set_5 : decode cX3_set 5 = .ok (.aload_n 0, 1) := by decide +kernel
theorem dX3_set_6 : decode cX3_set 6 = .ok (.iload_n 1, 1) := by decide +kernel
theorem dX3_set_7 : decode cX3_set 7 = .ok (.invokevirtual 97, 3) := by decide +kernel
theorem dX3_set_10 : decode cX3_set 10 = .ok (.ifCond .eq 22, 3) := by decide +kernel
theorem dX3_set_13 : decode cX3_set 13 = .ok (.iload_n 2, 1) := by decide +kernel
theorem dX3_set_14 : decode cX3_set 14 = .ok (.iconst 0, 1) := by decide +kernel
theorem dX3_set_15 : decode cX3_set 15 = .ok (.iconst 1, 1) := by decide +kernel
theorem dX3_set_16 : decode cX3_set 16 = .ok (.invokestatic 76, 3) := by decide +kernel
theorem dX3_set_19 : decode cX3_set 19 = .ok (.ifCond .eq 13, 3) := by decide +kernel
theorem dX3_set_22 : decode cX3_set 22 = .ok (.iload_n 3, 1) := by decide +kernel
theorem dX3_set_23 : decode cX3_set 23 = .ok (.iconst 1, 1) := by decide +kernel
theorem dX3_set_24 : decode cX3_set 24 = .ok (.bipush 60, 2) := by decide +kernel
theorem dX3_set_26 : decode cX3_set 26 = .ok (.invokestatic 76, 3) := by decide +kernel
theorem dX3_set_29 : decode cX3_set 29 = .ok (.ifCond .ne 5, 3) := by decide +kernel
theorem dX3_set_32 : decode cX3_set 32 = .ok (.iconst (-1), 1) := by decide +kernel
theorem dX3_set_33 : decode cX3_set 33 = .ok (.ireturn, 1) := by decide +kernel
theorem dX3_set_34 : decode cX3_set 34 = .ok (.iload_n 2, 1) := by decide +kernel
theorem dX3_set_35 : decode cX3_set 35 = .ok (.ifCond .ne 12, 3) := by decide +kernel
theorem dX3_set_38 : decode cX3_set 38 = .ok (.aload_n 0, 1) := by decide +kernel
theorem dX3_set_39 : decode cX3_set 39 = .ok (.getfield 16, 3) := by decide +kernel
theorem dX3_set_42 : decode cX3_set 42 = .ok (.iload_n 1, 1) := by decide +kernel
theorem dX3_set_43 : decode cX3_set 43 = .ok (.iaload, 1) := by decide +kernel
theorem dX3_set_44 : decode cX3_set 44 = .ok (.goto 9, 3) := by decide +kernel
theorem dX3_set_47 : decode cX3_set 47 = .ok (.aload_n 0, 1) := by decide +kernel
theorem dX3_set_48 : decode cX3_set 48 = .ok (.getfield 19, 3) := by decide +kernel
theorem dX3_set_51 : decode cX3_set 51 = .ok (.iload_n 1, 1) := by decide +kernel
theorem dX3_set_52 : decode cX3_set 52 = .ok (.iaload, 1) := by decide +kernel
theorem dX3_set_53 : decode cX3_set 53 = .ok (.istore 4, 2) := by decide +kernel
theorem dX3_set_55 : decode cX3_set 55 = .ok (.iload_n 2, 1) := by decide +kernel
theorem dX3_set_56 : decode cX3_set 56 = .ok (.ifCond .ne 13, 3) := by decide +kernel
theorem dX3_set_59 : decode cX3_set 59 = .ok (.aload_n 0, 1) := by decide +kernel
theorem dX3_set_60 : decode cX3_set 60 = .ok (.getfield 16, 3) := by decide +kernel
theorem dX3_set_63 : decode cX3_set 63 = .ok (.iload_n 1, 1) := by decide +kernel
theorem dX3_set_64 : decode cX3_set 64 = .ok (.iload_n 3, 1) := by decide +kernel
theorem dX3_set_65 : decode cX3_set 65 = .ok (.iastore, 1) := by decide +kernel
theorem dX3_set_66 : decode cX3_set 66 = .ok (.goto 10, 3) := by decide +kernel
theorem dX3_set_69 : decode cX3_set 69 = .ok (.aload_n 0, 1) := by decide +kernel
theorem dX3_set_70 : decode cX3_set 70 = .ok (.getfield 19, 3) := by decide +kernel
theorem dX3_set_73 : decode cX3_set 73 = .ok (.iload_n 1, 1) := by decide +kernel
theorem dX3_set_74 : decode cX3_set 74 = .ok (.iload_n 3, 1) := by decide +kernel
theorem dX3_set_75 : decode cX3_set 75 = .ok (.iastore, 1) := by decide +kernel
theorem dX3_set_76 : decode cX3_set 76 = .ok (.aload_n 0, 1) := by decide +kernel
theorem dX3_set_77 : decode cX3_set 77 = .ok (.invokevirtual 66, 3) := by decide +kernel
theorem dX3_set_80 : decode cX3_set 80 = .ok (.iload 4, 2) := by decide +kernel
theorem dX3_set_82 : decode cX3_set 82 = .ok (.ireturn, 1) := by decide +kernel
theorem dX3_copy_0 : decode cX3_copy 0 = .ok (.iconst 0, 1) := by decide +kernel
theorem dX3_copy_1 : decode cX3_copy 1 = .ok (.istore_n 2, 1) := by decide +kernel
theorem dX3_copy_2 : decode cX3_copy 2 = .ok (.iload_n 2, 1) := by decide +kernel
theorem dX3_copy_3 : decode cX3_copy 3 = .ok (.bipush 31, 2) := by decide +kernel
theorem dX3_copy_5 : decode cX3_copy 5 = .ok (.if_icmp .ge 15, 3) := by decide +kernel
theorem dX3_copy_8 : decode cX3_copy 8 = .ok (.aload_n 1, 1) := by decide +kernel
theorem dX3_copy_9 : decode cX3_copy 9 = .ok (.iload_n 2, 1) := by decide +kernel
theorem dX3_copy_10 : decode cX3_copy 10 = .ok (.aload_n 0, 1) := by decide +kernel
theorem dX3_copy_11 : decode cX3_copy 11 = .ok (.iload_n 2, 1) := by decide +kernel
theorem dX3_copy_12 : decode cX3_copy 12 = .ok (.laload, 1) := by decide +kernel
theorem dX3_copy_13 : decode cX3_copy 13 = .ok (.lastore, 1) := by decide +kernel
theorem dX3_copy_14 : decode cX3_copy 14 = .ok (.iinc 2 1, 3) := by decide +kernel
theorem dX3_copy_17 : decode cX3_copy 17 = .ok (.goto (-15), 3) := by decide +kernel
theorem dX3_copy_20 : decode cX3_copy 20 = .ok (.return_, 1) := by decide +kernel
theorem dX3_isFilling_0 : decode cX3_isFilling 0 = .ok (.aload_n 0, 1) := by decide +kernel
theorem dX3_isFilling_1 : decode cX3_isFilling 1 = .ok (.getfield 25, 3) := by decide +kernel
theorem dX3_isFilling_4 : decode cX3_isFilling 4 = .ok (.bipush 8, 2) := by decide +kernel
theorem dX3_isFilling_6 : decode cX3_isFilling 6 = .ok (.iload_n 1, 1) := by decide +kernel
theorem dX3_isFilling_7 : decode cX3_isFilling 7 = .ok (.iadd, 1) := by decide +kernel
theorem dX3_isFilling_8 : decode cX3_isFilling 8 = .ok (.laload, 1) := by decide +kernel
theorem dX3_isFilling_9 : decode cX3_isFilling 9 = .ok (.lconst 1, 1) := by decide +kernel
theorem dX3_isFilling_10 : decode cX3_isFilling 10 = .ok (.lcmp, 1) := by decide +kernel
theorem dX3_isFilling_11 : decode cX3_isFilling 11 = .ok (.ifCond .ne 7, 3) := by decide +kernel
theorem dX3_isFilling_14 : decode cX3_isFilling 14 = .ok (.iconst 1, 1) := by decide +kernel
theorem dX3_isFilling_15 : decode cX3_isFilling 15 = .ok (.goto 4, 3) := by decide +kernel
theorem dX3_isFilling_18 : decode cX3_isFilling 18 = .ok (.iconst 0, 1) := by decide +kernel
theorem dX3_isFilling_19 : decode cX3_isFilling 19 = .ok (.ireturn, 1) := by decide +kernel
set_option maxRecDepth 20000 in
theorem ggX3_waitOf_X3_isFilling : GoodIn wsX3_waitOf wsX3_isFilling := goodIn_r _ [10, 1, 24, 25, 26, 27, 28, 29, 30, 31, 32, 33, 34, 35, 36, 37, 38, 39, 40, 41, 42, 43, 44, 45, 46, 47, 48, 49, 50, 51] (by decide +kernel) (by decide +kernel)
set_option maxRecDepth 20000 in
theorem gX3_waitOf_X3_isFilling : GoodIn wsX3_waitOf (wsV RX3 104 RX3 yX3_isFilling wsX3_isFilling) := goodIn_app (goodIn_of _ (by decide +kernel)) ggX3_waitOf_X3_isFilling
set_option maxRecDepth 20000 in
theorem ggX3_waitOf_X3_make : GoodIn wsX3_waitOf wsX3_make := goodIn_r _ [14, 15, 16, 17, 18, 19, 20, 21, 22, 9, 23, 24, 25, 26, 27, 28, 29, 30, 31, 32, 33, 34, 35, 36, 37, 38, 39, 40, 41, 42, 43, 44, 45, 46, 47, 48, 49, 50, 51] (by decide +kernel) (by decide +kernel)
set_option maxRecDepth 20000 in
theorem gX3_waitOf_X3_make : GoodIn wsX3_waitOf (wsV RX3 107 RX3 yX3_make wsX3_make) := goodIn_app (goodIn_of _ (by decide +kernel)) ggX3_waitOf_X3_make
theorem dX3_waitOf_0 : decode cX3_waitOf 0 = .ok (.aload_n 0, 1) := by decide +kernel
theorem dX3_waitOf_1 : decode cX3_waitOf 1 = .ok (.getfield 25, 3) := by decide +kernel
theorem dX3_waitOf_4 : decode cX3_waitOf 4 = .ok (.iconst 0, 1) := by decide +kernel
theorem dX3_waitOf_5 : decode cX3_waitOf 5 = .ok (.iconst 2, 1) := by decide +kernel
theorem dX3_waitOf_6 : decode cX3_waitOf 6 = .ok (.iload_n 1, 1) := by decide +kernel
theorem dX3_waitOf_7 : decode cX3_waitOf 7 = .ok (.imul, 1) := by decide +kernel
theorem dX3_waitOf_8 : decode cX3_waitOf 8 = .ok (.iadd, 1) := by decide +kernel
theorem dX3_waitOf_9 : decode cX3_waitOf 9 = .ok (.laload, 1) := by decide +kernel
theorem dX3_waitOf_10 : decode cX3_waitOf 10 = .ok (.lstore_n 2, 1) := by decide +kernel
theorem dX3_waitOf_11 : decode cX3_waitOf 11 = .ok (.aload_n 0, 1) := by decide +kernel
theorem dX3_waitOf_12 : decode cX3_waitOf 12 = .ok (.getfield 25, 3) := by decide +kernel
theorem dX3_waitOf_15 : decode cX3_waitOf 15 = .ok (.iconst 0, 1) := by decide +kernel
theorem dX3_waitOf_16 : decode cX3_waitOf 16 = .ok (.iconst 2, 1) := by decide +kernel
theorem dX3_waitOf_17 : decode cX3_waitOf 17 = .ok (.iload_n 1, 1) := by decide +kernel
theorem dX3_waitOf_18 : decode cX3_waitOf 18 = .ok (.imul, 1) := by decide +kernel
theorem dX3_waitOf_19 : decode cX3_waitOf 19 = .ok (.iadd, 1) := by decide +kernel
theorem dX3_waitOf_20 : decode cX3_waitOf 20 = .ok (.iconst 1, 1) := by decide +kernel
theorem dX3_waitOf_21 : decode cX3_waitOf 21 = .ok (.iadd, 1) := by decide +kernel
theorem dX3_waitOf_22 : decode cX3_waitOf 22 = .ok (.laload, 1) := by decide +kernel
theorem dX3_waitOf_23 : decode cX3_waitOf 23 = .ok (.lstore 4, 2) := by decide +kernel
theorem dX3_waitOf_25 : decode cX3_waitOf 25 = .ok (.aload_n 0, 1) := by decide +kernel
theorem dX3_waitOf_26 : decode cX3_waitOf 26 = .ok (.iload_n 1, 1) := by decide +kernel
theorem dX3_waitOf_27 : decode cX3_waitOf 27 = .ok (.invokevirtual 104, 3) := by decide +kernel
theorem dX3_waitOf_30 : decode cX3_waitOf 30 = .ok (.ifCond .eq 32, 3) := by decide +kernel
theorem dX3_waitOf_33 : decode cX3_waitOf 33 = .ok (.aload_n 0, 1) := by decide +kernel
theorem dX3_waitOf_34 : decode cX3_waitOf 34 = .ok (.aload_n 0, 1) := by decide +kernel
theorem dX3_waitOf_35 : decode cX3_waitOf 35 = .ok (.getfield 13, 3) := by decide +kernel
theorem dX3_waitOf_38 : decode cX3_waitOf 38 = .ok (.iload_n 1, 1) := by decide +kernel
theorem dX3_waitOf_39 : decode cX3_waitOf 39 = .ok (.iaload, 1) := by decide +kernel
theorem dX3_waitOf_40 : decode cX3_waitOf 40 = .ok (.i2l, 1) := by decide +kernel
theorem dX3_waitOf_41 : decode cX3_waitOf 41 = .ok (.lload 4, 2) := by decide +kernel
theorem dX3_waitOf_43 : decode cX3_waitOf 43 = .ok (.lmul, 1) := by decide +kernel
theorem dX3_waitOf_44 : decode cX3_waitOf 44 = .ok (.lload_n 2, 1) := by decide +kernel
theorem dX3_waitOf_45 : decode cX3_waitOf 45 = .ok (.lsub, 1) := by decide +kernel
theorem dX3_waitOf_46 : decode cX3_waitOf 46 = .ok (.lload 4, 2) := by decide +kernel
theorem dX3_waitOf_48 : decode cX3_waitOf 48 = .ok (.aload_n 0, 1) := by decide +kernel
theorem dX3_waitOf_49 : decode cX3_waitOf 49 = .ok (.getfield 16, 3) := by decide +kernel
theorem dX3_waitOf_52 : decode cX3_waitOf 52 = .ok (.iload_n 1, 1) := by decide +kernel
theorem dX3_waitOf_53 : decode cX3_waitOf 53 = .ok (.iaload, 1) := by decide +kernel
theorem dX3_waitOf_54 : decode cX3_waitOf 54 = .ok (.i2l, 1) := by decide +kernel
theorem dX3_waitOf_55 : decode cX3_waitOf 55 = .ok (.lmul, 1) := by decide +kernel
theorem dX3_waitOf_56 : decode cX3_waitOf 56 = .ok (.invokevirtual 107, 3) := by decide +kernel
theorem dX3_waitOf_59 : decode cX3_waitOf 59 = .ok (.goto 29, 3) := by decide +kernel
theorem dX3_waitOf_62 : decode cX3_waitOf 62 = .ok (.aload_n 0, 1) := by decide +kernel
theorem dX3_waitOf_63 : decode cX3_waitOf 63 = .ok (.lload_n 2, 1) := by decide +kernel
theorem dX3_waitOf_64 : decode cX3_waitOf 64 = .ok (.aload_n 0, 1) := by decide +kernel
theorem dX3_waitOf_65 : decode cX3_waitOf 65 = .ok (.getfield 9, 3) := by decide +kernel
theorem dX3_waitOf_68 : decode cX3_waitOf 68 = .ok (.iload_n 1, 1) := by decide +kernel
theorem dX3_waitOf_69 : decode cX3_waitOf 69 = .ok (.iaload, 1) := by decide +kernel
theorem dX3_waitOf_70 : decode cX3_waitOf 70 = .ok (.i2l, 1) := by decide +kernel
theorem dX3_waitOf_71 : decode cX3_waitOf 71 = .ok (.lload 4, 2) := by decide +kernel
theorem dX3_waitOf_73 : decode cX3_waitOf 73 = .ok (.lmul, 1) := by decide +kernel
theorem dX3_waitOf_74 : decode cX3_waitOf 74 = .ok (.lsub, 1) := by decide +kernel
theorem dX3_waitOf_75 : decode cX3_waitOf 75 = .ok (.lload 4, 2) := by decide +kernel
theorem dX3_waitOf_77 : decode cX3_waitOf 77 = .ok (.aload_n 0, 1) := by decide +kernel
theorem dX3_waitOf_78 : decode cX3_waitOf 78 = .ok (.getfield 19, 3) := by decide +kernel
theorem dX3_waitOf_81 : decode cX3_waitOf 81 = .ok (.iload_n 1, 1) := by decide +kernel
theorem dX3_waitOf_82 : decode cX3_waitOf 82 = .ok (.iaload, 1) := by decide +kernel
theorem dX3_waitOf_83 : decode cX3_waitOf 83 = .ok (.i2l, 1) := by decide +kernel
theorem dX3_waitOf_84 : decode cX3_waitOf 84 = .ok (.lmul, 1) := by decide +kernel
theorem dX3_waitOf_85 : decode cX3_waitOf 85 = .ok (.invokevirtual 107, 3) := by decide +kernel
theorem dX3_waitOf_88 : decode cX3_waitOf 88 = .ok (.return_, 1) := by decide +kernel
theorem dX3_isOver_0 : decode cX3_isOver 0 = .ok (.lload_n 0, 1) := by decide +kernel
theorem dX3_isOver_1 : decode cX3_isOver 1 = .ok (.invokestatic 84, 3) := by decide +kernel
theorem dX3_isOver_4 : decode cX3_isOver 4 = .ok (.ldc2_w 111, 3) := by decide +kernel
theorem dX3_isOver_7 : decode cX3_isOver 7 = .ok (.lcmp, 1) := by decide +kernel
theorem dX3_isOver_8 : decode cX3_isOver 8 = .ok (.ifCond .gt 11, 3) := by decide +kernel
theorem dX3_isOver_11 : decode cX3_isOver 11 = .ok (.lload_n 2, 1) := by decide +kernel
theorem dX3_isOver_12 : decode cX3_isOver 12 = .ok (.ldc2_w 111, 3) := by decide +kernel
theorem dX3_isOver_15 : decode cX3_isOver 15 = .ok (.lcmp, 1) := by decide +kernel
theorem dX3_isOver_16 : decode cX3_isOver 16 = .ok (.ifCond .le 7, 3) := by decide +kernel
theorem dX3_isOver_19 : decode cX3_isOver 19 = .ok (.iconst 1, 1) := by decide +kernel
theorem dX3_isOver_20 : decode cX3_isOver 20 = .ok (.goto 4, 3) := by decide +kernel
theorem dX3_isOver_23 : decode cX3_isOver 23 = .ok (.iconst 0, 1) := by decide +kernel
theorem dX3_isOver_24 : decode cX3_isOver 24 = .ok (.ireturn, 1) := by decide +kernel
set_option maxRecDepth 20000 in
theorem ggX3_isSpent_X3_isOver : GoodIn wsX3_isSpent wsX3_isOver := goodIn_r _ [6, 7, 8, 9, 10, 11] (by decide +kernel) (by decide +kernel)
set_option maxRecDepth 20000 in
theorem gX3_isSpent_X3_isOver : GoodIn wsX3_isSpent (va_wsS RX3 113 yX3_isOver wsX3_isOver) := goodIn_app (goodIn_of _ (by decide +kernel)) ggX3_isSpent_X3_isOver
theorem dX3_isSpent_0 : decode cX3_isSpent 0 = .ok (.aload_n 0, 1) := by decide +kernel
theorem dX3_isSpent_1 : decode cX3_isSpent 1 = .ok (.getfield 25, 3) := by decide +kernel
theorem dX3_isSpent_4 : decode cX3_isSpent 4 = .ok (.bipush 20, 2) := by decide +kernel
theorem dX3_isSpent_6 : decode cX3_isSpent 6 = .ok (.laload, 1) := by decide +kernel
theorem dX3_isSpent_7 : decode cX3_isSpent 7 = .ok (.aload_n 0, 1) := by decide +kernel
theorem dX3_isSpent_8 : decode cX3_isSpent 8 = .ok (.getfield 25, 3) := by decide +kernel
theorem dX3_isSpent_11 : decode cX3_isSpent 11 = .ok (.bipush 21, 2) := by decide +kernel
theorem dX3_isSpent_13 : decode cX3_isSpent 13 = .ok (.laload, 1) := by decide +kernel
theorem dX3_isSpent_14 : decode cX3_isSpent 14 = .ok (.invokestatic 113, 3) := by decide +kernel
theorem dX3_isSpent_17 : decode cX3_isSpent 17 = .ok (.ifCond .eq 5, 3) := by decide +kernel
theorem dX3_isSpent_20 : decode cX3_isSpent 20 = .ok (.iconst 1, 1) := by decide +kernel
theorem dX3_isSpent_21 : decode cX3_isSpent 21 = .ok (.ireturn, 1) := by decide +kernel
theorem dX3_isSpent_22 : decode cX3_isSpent 22 = .ok (.iconst 0, 1) := by decide +kernel
theorem dX3_isSpent_23 : decode cX3_isSpent 23 = .ok (.istore_n 1, 1) := by decide +kernel
theorem dX3_isSpent_24 : decode cX3_isSpent 24 = .ok (.iload_n 1, 1) := by decide +kernel
theorem dX3_isSpent_25 : decode cX3_isSpent 25 = .ok (.aload_n 0, 1) := by decide +kernel
theorem dX3_isSpent_26 : decode cX3_isSpent 26 = .ok (.getfield 73, 3) := by decide +kernel
theorem dX3_isSpent_29 : decode cX3_isSpent 29 = .ok (.if_icmp .ge 39, 3) := by decide +kernel
theorem dX3_isSpent_32 : decode cX3_isSpent 32 = .ok (.aload_n 0, 1) := by decide +kernel
theorem dX3_isSpent_33 : decode cX3_isSpent 33 = .ok (.getfield 25, 3) := by decide +kernel
theorem dX3_isSpent_36 : decode cX3_isSpent 36 = .ok (.iconst 0, 1) := by decide +kernel
theorem dX3_isSpent_37 : decode cX3_isSpent 37 = .ok (.iconst 2, 1) := by decide +kernel
theorem dX3_isSpent_38 : decode cX3_isSpent 38 = .ok (.iload_n 1, 1) := by decide +kernel
theorem dX3_isSpent_39 : decode cX3_isSpent 39 = .ok (.imul, 1) := by decide +kernel
theorem dX3_isSpent_40 : decode cX3_isSpent 40 = .ok (.iadd, 1) := by decide +kernel
theorem dX3_isSpent_41 : decode cX3_isSpent 41 = .ok (.laload, 1) := by decide +kernel
theorem dX3_isSpent_42 : decode cX3_isSpent 42 = .ok (.aload_n 0, 1) := by decide +kernel
theorem dX3_isSpent_43 : decode cX3_isSpent 43 = .ok (.getfield 25, 3) := by decide +kernel
theorem dX3_isSpent_46 : decode cX3_isSpent 46 = .ok (.iconst 0, 1) := by decide +kernel
theorem dX3_isSpent_47 : decode cX3_isSpent 47 = .ok (.iconst 2, 1) := by decide +kernel
theorem dX3_isSpent_48 : decode cX3_isSpent 48 = .ok (.iload_n 1, 1) := by decide +kernel
theorem dX3_isSpent_49 : decode cX3_isSpent 49 = .ok (.imul, 1) := by decide +kernel
theorem dX3_isSpent_50 : decode cX3_isSpent 50 = .ok (.iadd, 1) := by decide +kernel
theorem dX3_isSpent_51 : decode cX3_isSpent 51 = .ok (.iconst 1, 1) := by decide +kernel
theorem dX3_isSpent_52 : decode cX3_isSpent 52 = .ok (.iadd, 1) := by decide +kernel
theorem dX3_isSpent_53 : decode cX3_isSpent 53 = .ok (.laload, 1) := by decide +kernel
theorem dX3_isSpent_54 : decode cX3_isSpent 54 = .ok (.invokestatic 113, 3) := by decide +kernel
theorem dX3_isSpent_57 : decode cX3_isSpent 57 = .ok (.ifCond .eq 5, 3) := by decide +kernel
theorem dX3_isSpent_60 : decode cX3_isSpent 60 = .ok (.iconst 1, 1) := by decide +kernel
theorem dX3_isSpent_61 : decode cX3_isSpent 61 = .ok (.ireturn, 1) := by decide +kernel
theorem dX3_isSpent_62 : decode cX3_isSpent 62 = .ok (.iinc 1 1, 3) := by decide +kernel
theorem dX3_isSpent_65 : decode cX3_isSpent 65 = .ok (.goto (-41), 3) := by decide +kernel
theorem dX3_isSpent_68 : decode cX3_isSpent 68 = .ok (.iconst 0, 1) := by decide +kernel
theorem dX3_isSpent_69 : decode cX3_isSpent 69 = .ok (.ireturn, 1) := by decide +kernel
set_option maxRecDepth 20000 in
theorem ggX3_step_X3_copy : GoodIn wsX3_step wsX3_copy := goodIn_r _ [20] (by decide +kernel) (by decide +kernel)
set_option maxRecDepth 20000 in
theorem gX3_step_X3_copy : GoodIn wsX3_step (va_wsS RX3 117 yX3_copy wsX3_copy) := goodIn_app (goodIn_of _ (by decide +kernel)) ggX3_step_X3_copy
set_option maxRecDepth 20000 in
theorem ggX3_step_X3_waitOf : GoodIn wsX3_step wsX3_waitOf := goodIn_r _ [24, 2, 25, 8, 26, 9, 27, 28, 29, 19, 30, 31, 32, 33, 34, 35, 36, 37, 38, 4, 5, 39, 40, 41, 59, 60, 61, 62, 63, 64, 65, 66, 67, 68, 69, 70, 71, 72, 73, 74, 75, 76, 77, 78, 79, 80, 81, 82, 83, 84, 85, 86] (by decide +kernel) (by decide +kernel)
set_option maxRecDepth 20000 in
theorem gX3_step_X3_waitOf : GoodIn wsX3_step (wsV RX3 121 RX3 yX3_waitOf wsX3_waitOf) := goodIn_app (goodIn_of _ (by decide +kernel)) ggX3_step_X3_waitOf
set_option maxRecDepth 20000 in
theorem ggX3_step_X3_isFilling : GoodIn wsX3_step wsX3_isFilling := goodIn_r _ [30, 2, 59, 60, 61, 62, 63, 64, 65, 66, 67, 68, 69, 70, 71, 72, 73, 74, 75, 76, 77, 78, 79, 80, 81, 82, 83, 84, 85, 86] (by decide +kernel) (by decide +kernel)
set_option maxRecDepth 20000 in
theorem gX3_step_X3_isFilling : GoodIn wsX3_step (wsV RX3 104 RX3 yX3_isFilling wsX3_isFilling) := goodIn_app (goodIn_of _ (by decide +kernel)) ggX3_step_X3_isFilling
set_option maxRecDepth 20000 in
theorem ggX3_step_X3_make : GoodIn wsX3_step wsX3_make := goodIn_r _ [34, 35, 36, 37, 38, 4, 5, 39, 40, 19, 41, 59, 60, 61, 62, 63, 64, 65, 66, 67, 68, 69, 70, 71, 72, 73, 74, 75, 76, 77, 78, 79, 80, 81, 82, 83, 84, 85, 86] (by decide +kernel) (by decide +kernel)
set_option maxRecDepth 20000 in
theorem gX3_step_X3_make : GoodIn wsX3_step (wsV RX3 107 RX3 yX3_make wsX3_make) := goodIn_app (goodIn_of _ (by decide +kernel)) ggX3_step_X3_make
set_option maxRecDepth 20000 in
theorem ggX3_step_X3_store : GoodIn wsX3_step wsX3_store := goodIn_r _ [45, 2, 4, 5, 59, 60, 61, 62, 63, 64, 65, 66, 67, 68, 69, 70, 71, 72, 73, 74, 75, 76, 77, 78, 79, 80, 81, 82, 83, 84, 85, 86] (by decide +kernel) (by decide +kernel)
set_option maxRecDepth 20000 in
theorem gX3_step_X3_store : GoodIn wsX3_step (wsV RX3 131 RX3 yX3_store wsX3_store) := goodIn_app (goodIn_of _ (by decide +kernel)) ggX3_step_X3_store
set_option maxRecDepth 20000 in
theorem ggX3_step_X3_act : GoodIn wsX3_step wsX3_act := goodIn_r _ [49, 50, 6, 7, 2, 25, 26, 31, 32, 33, 19, 34, 35, 36, 37, 38, 4, 5, 39, 40, 41, 42, 43, 44, 45, 59, 60, 61, 62, 63, 64, 65, 66, 67, 68, 69, 70, 71, 72, 73, 74, 75, 76, 77, 78, 79, 80, 81, 82, 83, 84, 85, 86] (by decide +kernel) (by decide +kernel)
set_option maxRecDepth 20000 in
theorem gX3_step_X3_act : GoodIn wsX3_step (wsV RX3 134 RX3 yX3_act wsX3_act) := goodIn_app (goodIn_of _ (by decide +kernel)) ggX3_step_X3_act
set_option maxRecDepth 20000 in
theorem ggX3_step_X3_isSpent : GoodIn wsX3_step wsX3_isSpent := goodIn_r _ [54, 2, 1, 55, 56, 19, 57, 35, 36, 37, 38, 58, 59, 60, 61, 62, 63, 64, 65, 66, 67, 68, 69, 70, 71, 72, 73, 74, 75, 76, 77, 78, 79, 80, 81, 82, 83, 84, 85, 86] (by decide +kernel) (by decide +kernel)
set_option maxRecDepth 20000 in
theorem gX3_step_X3_isSpent : GoodIn wsX3_step (wsV RX3 137 RX3 yX3_isSpent wsX3_isSpent) := goodIn_app (goodIn_of _ (by decide +kernel)) ggX3_step_X3_isSpent
theorem dX3_step_0 : decode cX3_step 0 = .ok (.aload_n 0, 1) := by decide +kernel
theorem dX3_step_1 : decode cX3_step 1 = .ok (.getfield 73, 3) := by decide +kernel
theorem dX3_step_4 : decode cX3_step 4 = .ok (.ifCond .ne 5, 3) := by decide +kernel
theorem dX3_step_7 : decode cX3_step 7 = .ok (.iconst 0, 1) := by decide +kernel
theorem dX3_step_8 : decode cX3_step 8 = .ok (.ireturn, 1) := by decide +kernel
theorem dX3_step_9 : decode cX3_step 9 = .ok (.aload_n 0, 1) := by decide +kernel
theorem dX3_step_10 : decode cX3_step 10 = .ok (.getfield 25, 3) := by decide +kernel
theorem dX3_step_13 : decode cX3_step 13 = .ok (.aload_n 0, 1) := by decide +kernel
theorem dX3_step_14 : decode cX3_step 14 = .ok (.getfield 29, 3) := by decide +kernel
theorem dX3_step_17 : decode cX3_step 17 = .ok (.invokestatic 117, 3) := by decide +kernel
theorem dX3_step_20 : decode cX3_step 20 = .ok (.aload_n 0, 1) := by decide +kernel
theorem dX3_step_21 : decode cX3_step 21 = .ok (.iconst 0, 1) := by decide +kernel
theorem dX3_step_22 : decode cX3_step 22 = .ok (.invokevirtual 121, 3) := by decide +kernel
theorem dX3_step_25 : decode cX3_step 25 = .ok (.aload_n 0, 1) := by decide +kernel
theorem dX3_step_26 : decode cX3_step 26 = .ok (.getfield 90, 3) := by decide +kernel
theorem dX3_step_29 : decode cX3_step 29 = .ok (.lstore_n 1, 1) := by decide +kernel
theorem dX3_step_30 : decode cX3_step 30 = .ok (.aload_n 0, 1) := by decide +kernel
theorem dX3_step_31 : decode cX3_step 31 = .ok (.getfield 94, 3) := by decide +kernel
theorem dX3_step_34 : decode cX3_step 34 = .ok (.lstore_n 3, 1) := by decide +kernel
theorem dX3_step_35 : decode cX3_step 35 = .ok (.aload_n 0, 1) := by decide +kernel
theorem dX3_step_36 : decode cX3_step 36 = .ok (.iconst 0, 1) := by decide +kernel
theorem dX3_step_37 : decode cX3_step 37 = .ok (.putfield 125, 3) := by decide +kernel
theorem dX3_step_40 : decode cX3_step 40 = .ok (.iconst 1, 1) := by decide +kernel
theorem dX3_step_41 : decode cX3_step 41 = .ok (.istore 5, 2) := by decide +kernel
theorem dX3_step_43 : decode cX3_step 43 = .ok (.iload 5, 2) := by decide +kernel
theorem dX3_step_45 : decode cX3_step 45 = .ok (.aload_n 0, 1) := by decide +kernel
theorem dX3_step_46 : decode cX3_step 46 = .ok (.getfield 73, 3) := by decide +kernel
theorem dX3_step_49 : decode cX3_step 49 = .ok (.if_icmp .ge 50, 3) := by decide +kernel
theorem dX3_step_52 : decode cX3_step 52 = .ok (.aload_n 0, 1) := by decide +kernel
theorem dX3_step_53 : decode cX3_step 53 = .ok (.iload 5, 2) := by decide +kernel
theorem dX3_step_55 : decode cX3_step 55 = .ok (.invokevirtual 121, 3) := by decide +kernel
theorem dX3_step_58 : decode cX3_step 58 = .ok (.aload_n 0, 1) := by decide +kernel
theorem dX3_step_59 : decode cX3_step 59 = .ok (.getfield 90, 3) := by decide +kernel
theorem dX3_step_62 : decode cX3_step 62 = .ok (.lload_n 3, 1) := by decide +kernel
theorem dX3_step_63 : decode cX3_step 63 = .ok (.lmul, 1) := by decide +kernel
theorem dX3_step_64 : decode cX3_step 64 = .ok (.lload_n 1, 1) := by decide +kernel
theorem dX3_step_65 : decode cX3_step 65 = .ok (.aload_n 0, 1) := by decide +kernel
theorem dX3_step_66 : decode cX3_step 66 = .ok (.getfield 94, 3) := by decide +kernel
theorem dX3_step_69 : decode cX3_step 69 = .ok (.lmul, 1) := by decide +kernel
theorem dX3_step_70 : decode cX3_step 70 = .ok (.lcmp, 1) := by decide +kernel
theorem dX3_step_71 : decode cX3_step 71 = .ok (.ifCond .lt 6, 3) := by decide +kernel
theorem dX3_step_74 : decode cX3_step 74 = .ok (.goto 19, 3) := by decide +kernel
theorem dX3_step_77 : decode cX3_step 77 = .ok (.aload_n 0, 1) := by decide +kernel
theorem dX3_step_78 : decode cX3_step 78 = .ok (.getfield 90, 3) := by decide +kernel
theorem dX3_step_81 : decode cX3_step 81 = .ok (.lstore_n 1, 1) := by decide +kernel
theorem dX3_step_82 : decode cX3_step 82 = .ok (.aload_n 0, 1) := by decide +kernel
theorem dX3_step_83 : decode cX3_step 83 = .ok (.getfield 94, 3) := by decide +kernel
theorem dX3_step_86 : decode cX3_step 86 = .ok (.lstore_n 3, 1) := by decide +kernel
theorem dX3_step_87 : decode cX3_step 87 = .ok (.aload_n 0, 1) := by decide +kernel
theorem dX3_step_88 : decode cX3_step 88 = .ok (.iload 5, 2) := by decide +kernel
theorem dX3_step_90 : decode cX3_step 90 = .ok (.putfield 125, 3) := by decide +kernel
theorem dX3_step_93 : decode cX3_step 93 = .ok (.iinc 5 1, 3) := by decide +kernel
theorem dX3_step_96 : decode cX3_step 96 = .ok (.goto (-53), 3) := by decide +kernel
theorem dX3_step_99 : decode cX3_step 99 = .ok (.aload_n 0, 1) := by decide +kernel
theorem dX3_step_100 : decode cX3_step 100 = .ok (.aload_n 0, 1) := by decide +kernel
theorem dX3_step_101 : decode cX3_step 101 = .ok (.aload_n 0, 1) := by decide +kernel
theorem dX3_step_102 : decode cX3_step 102 = .ok (.getfield 125, 3) := by decide +kernel
theorem dX3_step_105 : decode cX3_step 105 = .ok (.invokevirtual 104, 3) := by decide +kernel
theorem dX3_step_108 : decode cX3_step 108 = .ok (.ifCond .eq 7, 3) := by decide +kernel
theorem dX3_step_111 : decode cX3_step 111 = .ok (.iconst 0, 1) := by decide +kernel
theorem dX3_step_112 : decode cX3_step 112 = .ok (.goto 4, 3) := by decide +kernel
theorem dX3_step_115 : decode cX3_step 115 = .ok (.iconst 1, 1) := by decide +kernel
theorem dX3_step_116 : decode cX3_step 116 = .ok (.putfield 128, 3) := by decide +kernel
theorem dX3_step_119 : decode cX3_step 119 = .ok (.iconst 0, 1) := by decide +kernel
theorem dX3_step_120 : decode cX3_step 120 = .ok (.istore 5, 2) := by decide +kernel
theorem dX3_step_122 : decode cX3_step 122 = .ok (.iload 5, 2) := by decide +kernel
theorem dX3_step_124 : decode cX3_step 124 = .ok (.aload_n 0, 1) := by decide +kernel
theorem dX3_step_125 : decode cX3_step 125 = .ok (.getfield 73, 3) := by decide +kernel
theorem dX3_step_128 : decode cX3_step 128 = .ok (.if_icmp .ge 98, 3) := by decide +kernel
theorem dX3_step_131 : decode cX3_step 131 = .ok (.aload_n 0, 1) := by decide +kernel
theorem dX3_step_132 : decode cX3_step 132 = .ok (.getfield 25, 3) := by decide +kernel
theorem dX3_step_135 : decode cX3_step 135 = .ok (.iconst 0, 1) := by decide +kernel
theorem dX3_step_136 : decode cX3_step 136 = .ok (.iconst 2, 1) := by decide +kernel
theorem dX3_step_137 : decode cX3_step 137 = .ok (.iload 5, 2) := by decide +kernel
theorem dX3_step_139 : decode cX3_step 139 = .ok (.imul, 1) := by decide +kernel
theorem dX3_step_140 : decode cX3_step 140 = .ok (.iadd, 1) := by decide +kernel
theorem dX3_step_141 : decode cX3_step 141 = .ok (.laload, 1) := by decide +kernel
theorem dX3_step_142 : decode cX3_step 142 = .ok (.lstore 6, 2) := by decide +kernel
theorem dX3_step_144 : decode cX3_step 144 = .ok (.aload_n 0, 1) := by decide +kernel
theorem dX3_step_145 : decode cX3_step 145 = .ok (.getfield 25, 3) := by decide +kernel
theorem dX3_step_148 : decode cX3_step 148 = .ok (.iconst 0, 1) := by decide +kernel
theorem dX3_step_149 : decode cX3_step 149 = .ok (.iconst 2, 1) := by decide +kernel
theorem dX3_step_150 : decode cX3_step 150 = .ok (.iload 5, 2) := by decide +kernel
theorem dX3_step_152 : decode cX3_step 152 = .ok (.imul, 1) := by decide +kernel
theorem dX3_step_153 : decode cX3_step 153 = .ok (.iadd, 1) := by decide +kernel
theorem dX3_step_154 : decode cX3_step 154 = .ok (.iconst 1, 1) := by decide +kernel
theorem dX3_step_155 : decode cX3_step 155 = .ok (.iadd, 1) := by decide +kernel
theorem dX3_step_156 : decode cX3_step 156 = .ok (.laload, 1) := by decide +kernel
theorem dX3_step_157 : decode cX3_step 157 = .ok (.lstore 8, 2) := by decide +kernel
theorem dX3_step_159 : decode cX3_step 159 = .ok (.aload_n 0, 1) := by decide +kernel
theorem dX3_step_160 : decode cX3_step 160 = .ok (.iload 5, 2) := by decide +kernel
theorem dX3_step_162 : decode cX3_step 162 = .ok (.invokevirtual 104, 3) := by decide +kernel
theorem dX3_step_165 : decode cX3_step 165 = .ok (.ifCond .eq 14, 3) := by decide +kernel
theorem dX3_step_168 : decode cX3_step 168 = .ok (.aload_n 0, 1) := by decide +kernel
theorem dX3_step_169 : decode cX3_step 169 = .ok (.getfield 16, 3) := by decide +kernel
theorem dX3_step_172 : decode cX3_step 172 = .ok (.iload 5, 2) := by decide +kernel
theorem dX3_step_174 : decode cX3_step 174 = .ok (.iaload, 1) := by decide +kernel
theorem dX3_step_175 : decode cX3_step 175 = .ok (.i2l, 1) := by decide +kernel
theorem dX3_step_176 : decode cX3_step 176 = .ok (.goto 12, 3) := by decide +kernel
theorem dX3_step_179 : decode cX3_step 179 = .ok (.aload_n 0, 1) := by decide +kernel
theorem dX3_step_180 : decode cX3_step 180 = .ok (.getfield 19, 3) := by decide +kernel
theorem dX3_step_183 : decode cX3_step 183 = .ok (.iload 5, 2) := by decide +kernel
theorem dX3_step_185 : decode cX3_step 185 = .ok (.iaload, 1) := by decide +kernel
theorem dX3_step_186 : decode cX3_step 186 = .ok (.ineg, 1) := by decide +kernel
theorem dX3_step_187 : decode cX3_step 187 = .ok (.i2l, 1) := by decide +kernel
theorem dX3_step_188 : decode cX3_step 188 = .ok (.lstore 10, 2) := by decide +kernel
theorem dX3_step_190 : decode cX3_step 190 = .ok (.aload_n 0, 1) := by decide +kernel
theorem dX3_step_191 : decode cX3_step 191 = .ok (.lload 6, 2) := by decide +kernel
theorem dX3_step_193 : decode cX3_step 193 = .ok (.lload_n 3, 1) := by decide +kernel
theorem dX3_step_194 : decode cX3_step 194 = .ok (.lmul, 1) := by decide +kernel
theorem dX3_step_195 : decode cX3_step 195 = .ok (.lload 10, 2) := by decide +kernel
theorem dX3_step_197 : decode cX3_step 197 = .ok (.lload_n 1, 1) := by decide +kernel
theorem dX3_step_198 : decode cX3_step 198 = .ok (.lmul, 1) := by decide +kernel
theorem dX3_step_199 : decode cX3_step 199 = .ok (.lload 8, 2) := by decide +kernel
theorem dX3_step_201 : decode cX3_step 201 = .ok (.lmul, 1) := by decide +kernel
theorem dX3_step_202 : decode cX3_step 202 = .ok (.ladd, 1) := by decide +kernel
theorem dX3_step_203 : decode cX3_step 203 = .ok (.lload 8, 2) := by decide +kernel
theorem dX3_step_205 : decode cX3_step 205 = .ok (.lload_n 3, 1) := by decide +kernel
theorem dX3_step_206 : decode cX3_step 206 = .ok (.lmul, 1) := by decide +kernel
theorem dX3_step_207 : decode cX3_step 207 = .ok (.invokevirtual 107, 3) := by decide +kernel
theorem dX3_step_210 : decode cX3_step 210 = .ok (.aload_n 0, 1) := by decide +kernel
theorem dX3_step_211 : decode cX3_step 211 = .ok (.iconst 0, 1) := by decide +kernel
theorem dX3_step_212 : decode cX3_step 212 = .ok (.iconst 2, 1) := by decide +kernel
theorem dX3_step_213 : decode cX3_step 213 = .ok (.iload 5, 2) := by decide +kernel
theorem dX3_step_215 : decode cX3_step 215 = .ok (.imul, 1) := by decide +kernel
theorem dX3_step_216 : decode cX3_step 216 = .ok (.iadd, 1) := by decide +kernel
theorem dX3_step_217 : decode cX3_step 217 = .ok (.invokevirtual 131, 3) := by decide +kernel
theorem dX3_step_220 : decode cX3_step 220 = .ok (.iinc 5 1, 3) := by decide +kernel
theorem dX3_step_223 : decode cX3_step 223 = .ok (.goto (-101), 3) := by decide +kernel
theorem dX3_step_226 : decode cX3_step 226 = .ok (.aload_n 0, 1) := by decide +kernel
theorem dX3_step_227 : decode cX3_step 227 = .ok (.aload_n 0, 1) := by decide +kernel
theorem dX3_step_228 : decode cX3_step 228 = .ok (.getfield 25, 3) := by decide +kernel
theorem dX3_step_231 : decode cX3_step 231 = .ok (.bipush 20, 2) := by decide +kernel
theorem dX3_step_233 : decode cX3_step 233 = .ok (.laload, 1) := by decide +kernel
theorem dX3_step_234 : decode cX3_step 234 = .ok (.lload_n 3, 1) := by decide +kernel
theorem dX3_step_235 : decode cX3_step 235 = .ok (.lmul, 1) := by decide +kernel
theorem dX3_step_236 : decode cX3_step 236 = .ok (.lload_n 1, 1) := by decide +kernel
theorem dX3_step_237 : decode cX3_step 237 = .ok (.aload_n 0, 1) := by decide +kernel
theorem dX3_step_238 : decode cX3_step 238 = .ok (.getfield 25, 3) := by decide +kernel
theorem dX3_step_241 : decode cX3_step 241 = .ok (.bipush 21, 2) := by decide +kernel
theorem dX3_step_243 : decode cX3_step 243 = .ok (.laload, 1) := by decide +kernel
theorem dX3_step_244 : decode cX3_step 244 = .ok (.lmul, 1) := by decide +kernel
theorem dX3_step_245 : decode cX3_step 245 = .ok (.ladd, 1) := by decide +kernel
theorem dX3_step_246 : decode cX3_step 246 = .ok (.aload_n 0, 1) := by decide +kernel
theorem dX3_step_247 : decode cX3_step 247 = .ok (.getfield 25, 3) := by decide +kernel
theorem dX3_step_250 : decode cX3_step 250 = .ok (.bipush 21, 2) := by decide +kernel
theorem dX3_step_252 : decode cX3_step 252 = .ok (.laload, 1) := by decide +kernel
theorem dX3_step_253 : decode cX3_step 253 = .ok (.lload_n 3, 1) := by decide +kernel
theorem dX3_step_254 : decode cX3_step 254 = .ok (.lmul, 1) := by decide +kernel
theorem dX3_step_255 : decode cX3_step 255 = .ok (.invokevirtual 107, 3) := by decide +kernel
theorem dX3_step_258 : decode cX3_step 258 = .ok (.aload_n 0, 1) := by decide +kernel
theorem dX3_step_259 : decode cX3_step 259 = .ok (.bipush 20, 2) := by decide +kernel
theorem dX3_step_261 : decode cX3_step 261 = .ok (.invokevirtual 131, 3) := by decide +kernel
theorem dX3_step_264 : decode cX3_step 264 = .ok (.aload_n 0, 1) := by decide +kernel
theorem dX3_step_265 : decode cX3_step 265 = .ok (.getfield 25, 3) := by decide +kernel
theorem dX3_step_268 : decode cX3_step 268 = .ok (.bipush 8, 2) := by decide +kernel
theorem dX3_step_270 : decode cX3_step 270 = .ok (.aload_n 0, 1) := by decide +kernel
theorem dX3_step_271 : decode cX3_step 271 = .ok (.getfield 125, 3) := by decide +kernel
theorem dX3_step_274 : decode cX3_step 274 = .ok (.iadd, 1) := by decide +kernel
theorem dX3_step_275 : decode cX3_step 275 = .ok (.aload_n 0, 1) := by decide +kernel
theorem dX3_step_276 : decode cX3_step 276 = .ok (.getfield 128, 3) := by decide +kernel
theorem dX3_step_279 : decode cX3_step 279 = .ok (.i2l, 1) := by decide +kernel
theorem dX3_step_280 : decode cX3_step 280 = .ok (.lastore, 1) := by decide +kernel
theorem dX3_step_281 : decode cX3_step 281 = .ok (.aload_n 0, 1) := by decide +kernel
theorem dX3_step_282 : decode cX3_step 282 = .ok (.getfield 25, 3) := by decide +kernel
theorem dX3_step_285 : decode cX3_step 285 = .ok (.aload_n 0, 1) := by decide +kernel
theorem dX3_step_286 : decode cX3_step 286 = .ok (.getfield 128, 3) := by decide +kernel
theorem dX3_step_289 : decode cX3_step 289 = .ok (.ifCond .ne 8, 3) := by decide +kernel
theorem dX3_step_292 : decode cX3_step 292 = .ok (.bipush 22, 2) := by decide +kernel
theorem dX3_step_294 : decode cX3_step 294 = .ok (.goto 5, 3) := by decide +kernel
theorem dX3_step_297 : decode cX3_step 297 = .ok (.bipush 26, 2) := by decide +kernel
theorem dX3_step_299 : decode cX3_step 299 = .ok (.aload_n 0, 1) := by decide +kernel
theorem dX3_step_300 : decode cX3_step 300 = .ok (.getfield 125, 3) := by decide +kernel
theorem dX3_step_303 : decode cX3_step 303 = .ok (.iadd, 1) := by decide +kernel
theorem dX3_step_304 : decode cX3_step 304 = .ok (.dup2, 1) := by decide +kernel
theorem dX3_step_305 : decode cX3_step 305 = .ok (.laload, 1) := by decide +kernel
theorem dX3_step_306 : decode cX3_step 306 = .ok (.lconst 1, 1) := by decide +kernel
theorem dX3_step_307 : decode cX3_step 307 = .ok (.ladd, 1) := by decide +kernel
theorem dX3_step_308 : decode cX3_step 308 = .ok (.lastore, 1) := by decide +kernel
theorem dX3_step_309 : decode cX3_step 309 = .ok (.aload_n 0, 1) := by decide +kernel
theorem dX3_step_310 : decode cX3_step 310 = .ok (.getfield 25, 3) := by decide +kernel
theorem dX3_step_313 : decode cX3_step 313 = .ok (.bipush 30, 2) := by decide +kernel
theorem dX3_step_315 : decode cX3_step 315 = .ok (.dup2, 1) := by decide +kernel
theorem dX3_step_316 : decode cX3_step 316 = .ok (.laload, 1) := by decide +kernel
theorem dX3_step_317 : decode cX3_step 317 = .ok (.lconst 1, 1) := by decide +kernel
theorem dX3_step_318 : decode cX3_step 318 = .ok (.ladd, 1) := by decide +kernel
theorem dX3_step_319 : decode cX3_step 319 = .ok (.lastore, 1) := by decide +kernel
theorem dX3_step_320 : decode cX3_step 320 = .ok (.iconst 0, 1) := by decide +kernel
theorem dX3_step_321 : decode cX3_step 321 = .ok (.istore 5, 2) := by decide +kernel
theorem dX3_step_323 : decode cX3_step 323 = .ok (.iload 5, 2) := by decide +kernel
theorem dX3_step_325 : decode cX3_step 325 = .ok (.aload_n 0, 1) := by decide +kernel
theorem dX3_step_326 : decode cX3_step 326 = .ok (.getfield 101, 3) := by decide +kernel
theorem dX3_step_329 : decode cX3_step 329 = .ok (.if_icmp .ge 15, 3) := by decide +kernel
theorem dX3_step_332 : decode cX3_step 332 = .ok (.aload_n 0, 1) := by decide +kernel
theorem dX3_step_333 : decode cX3_step 333 = .ok (.iload 5, 2) := by decide +kernel
theorem dX3_step_335 : decode cX3_step 335 = .ok (.invokevirtual 134, 3) := by decide +kernel
theorem dX3_step_338 : decode cX3_step 338 = .ok (.iinc 5 1, 3) := by decide +kernel
theorem dX3_step_341 : decode cX3_step 341 = .ok (.goto (-18), 3) := by decide +kernel
theorem dX3_step_344 : decode cX3_step 344 = .ok (.aload_n 0, 1) := by decide +kernel
theorem dX3_step_345 : decode cX3_step 345 = .ok (.invokevirtual 137, 3) := by decide +kernel
theorem dX3_step_348 : decode cX3_step 348 = .ok (.ifCond .eq 16, 3) := by decide +kernel
theorem dX3_step_351 : decode cX3_step 351 = .ok (.aload_n 0, 1) := by decide +kernel
theorem dX3_step_352 : decode cX3_step 352 = .ok (.getfield 29, 3) := by decide +kernel
theorem dX3_step_355 : decode cX3_step 355 = .ok (.aload_n 0, 1) := by decide +kernel
theorem dX3_step_356 : decode cX3_step 356 = .ok (.getfield 25, 3) := by decide +kernel
theorem dX3_step_359 : decode cX3_step 359 = .ok (.invokestatic 117, 3) := by decide +kernel
theorem dX3_step_362 : decode cX3_step 362 = .ok (.iconst 0, 1) := by decide +kernel
theorem dX3_step_363 : decode cX3_step 363 = .ok (.ireturn, 1) := by decide +kernel
theorem dX3_step_364 : decode cX3_step 364 = .ok (.aload_n 0, 1) := by decide +kernel
theorem dX3_step_365 : decode cX3_step 365 = .ok (.getfield 47, 3) := by decide +kernel
theorem dX3_step_368 : decode cX3_step 368 = .ok (.ifCond .eq 79, 3) := by decide +kernel
theorem dX3_step_371 : decode cX3_step 371 = .ok (.aload_n 0, 1) := by decide +kernel
theorem dX3_step_372 : decode cX3_step 372 = .ok (.getfield 25, 3) := by decide +kernel
theorem dX3_step_375 : decode cX3_step 375 = .ok (.bipush 30, 2) := by decide +kernel
theorem dX3_step_377 : decode cX3_step 377 = .ok (.laload, 1) := by decide +kernel
theorem dX3_step_378 : decode cX3_step 378 = .ok (.ldc2_w 141, 3) := by decide +kernel
theorem dX3_step_381 : decode cX3_step 381 = .ok (.lcmp, 1) := by decide +kernel
theorem dX3_step_382 : decode cX3_step 382 = .ok (.ifCond .gt 65, 3) := by decide +kernel
theorem dX3_step_385 : decode cX3_step 385 = .ok (.aload_n 0, 1) := by decide +kernel
theorem dX3_step_386 : decode cX3_step 386 = .ok (.getfield 25, 3) := by decide +kernel
theorem dX3_step_389 : decode cX3_step 389 = .ok (.bipush 30, 2) := by decide +kernel
theorem dX3_step_391 : decode cX3_step 391 = .ok (.laload, 1) := by decide +kernel
theorem dX3_step_392 : decode cX3_step 392 = .ok (.l2i, 1) := by decide +kernel
theorem dX3_step_393 : decode cX3_step 393 = .ok (.iconst 1, 1) := by decide +kernel
theorem dX3_step_394 : decode cX3_step 394 = .ok (.isub, 1) := by decide +kernel
theorem dX3_step_395 : decode cX3_step 395 = .ok (.istore 5, 2) := by decide +kernel
theorem dX3_step_397 : decode cX3_step 397 = .ok (.aload_n 0, 1) := by decide +kernel
theorem dX3_step_398 : decode cX3_step 398 = .ok (.getfield 35, 3) := by decide +kernel
theorem dX3_step_401 : decode cX3_step 401 = .ok (.iload 5, 2) := by decide +kernel
theorem dX3_step_403 : decode cX3_step 403 = .ok (.aload_n 0, 1) := by decide +kernel
theorem dX3_step_404 : decode cX3_step 404 = .ok (.getfield 125, 3) := by decide +kernel
theorem dX3_step_407 : decode cX3_step 407 = .ok (.iastore, 1) := by decide +kernel
theorem dX3_step_408 : decode cX3_step 408 = .ok (.aload_n 0, 1) := by decide +kernel
theorem dX3_step_409 : decode cX3_step 409 = .ok (.getfield 38, 3) := by decide +kernel
theorem dX3_step_412 : decode cX3_step 412 = .ok (.iload 5, 2) := by decide +kernel
theorem dX3_step_414 : decode cX3_step 414 = .ok (.aload_n 0, 1) := by decide +kernel
theorem dX3_step_415 : decode cX3_step 415 = .ok (.getfield 128, 3) := by decide +kernel
theorem dX3_step_418 : decode cX3_step 418 = .ok (.iastore, 1) := by decide +kernel
theorem dX3_step_419 : decode cX3_step 419 = .ok (.aload_n 0, 1) := by decide +kernel
theorem dX3_step_420 : decode cX3_step 420 = .ok (.getfield 41, 3) := by decide +kernel
theorem dX3_step_423 : decode cX3_step 423 = .ok (.iload 5, 2) := by decide +kernel
theorem dX3_step_425 : decode cX3_step 425 = .ok (.aload_n 0, 1) := by decide +kernel
theorem dX3_step_426 : decode cX3_step 426 = .ok (.getfield 25, 3) := by decide +kernel
theorem dX3_step_429 : decode cX3_step 429 = .ok (.bipush 20, 2) := by decide +kernel
theorem dX3_step_431 : decode cX3_step 431 = .ok (.laload, 1) := by decide +kernel
theorem dX3_step_432 : decode cX3_step 432 = .ok (.lastore, 1) := by decide +kernel
theorem dX3_step_433 : decode cX3_step 433 = .ok (.aload_n 0, 1) := by decide +kernel
theorem dX3_step_434 : decode cX3_step 434 = .ok (.getfield 44, 3) := by decide +kernel
theorem dX3_step_437 : decode cX3_step 437 = .ok (.iload 5, 2) := by decide +kernel
theorem dX3_step_439 : decode cX3_step 439 = .ok (.aload_n 0, 1) := by decide +kernel
theorem dX3_step_440 : decode cX3_step 440 = .ok (.getfield 25, 3) := by decide +kernel
theorem dX3_step_443 : decode cX3_step 443 = .ok (.bipush 21, 2) := by decide +kernel
theorem dX3_step_445 : decode cX3_step 445 = .ok (.laload, 1) := by decide +kernel
theorem dX3_step_446 : decode cX3_step 446 = .ok (.lastore, 1) := by decide +kernel
theorem dX3_step_447 : decode cX3_step 447 = .ok (.iconst 1, 1) := by decide +kernel
theorem dX3_step_448 : decode cX3_step 448 = .ok (.ireturn, 1) := by decide +kernel
set_option maxRecDepth 20000 in
theorem ggX3_act_X3_make : GoodIn wsX3_act wsX3_make := goodIn_r _ [11, 12, 13, 14, 15, 16, 17, 18, 19, 10, 20, 25, 26, 27, 28, 29, 30, 31, 32, 33, 34, 35, 36, 37, 38, 39, 40, 41, 42, 43, 44, 45, 46, 47, 48, 49, 50, 51, 52] (by decide +kernel) (by decide +kernel)
set_option maxRecDepth 20000 in
theorem gX3_act_X3_make : GoodIn wsX3_act (wsV RX3 107 RX3 yX3_make wsX3_make) := goodIn_app (goodIn_of _ (by decide +kernel)) ggX3_act_X3_make
set_option maxRecDepth 20000 in
theorem ggX3_act_X3_store : GoodIn wsX3_act wsX3_store := goodIn_r _ [24, 4, 16, 17, 25, 26, 27, 28, 29, 30, 31, 32, 33, 34, 35, 36, 37, 38, 39, 40, 41, 42, 43, 44, 45, 46, 47, 48, 49, 50, 51, 52] (by decide +kernel) (by decide +kernel)
set_option maxRecDepth 20000 in
theorem gX3_act_X3_store : GoodIn wsX3_act (wsV RX3 131 RX3 yX3_store wsX3_store) := goodIn_app (goodIn_of _ (by decide +kernel)) ggX3_act_X3_store
theorem dX3_act_0 : decode cX3_act 0 = .ok (.bipush 6, 2) := by decide +kernel
theorem dX3_act_2 : decode cX3_act 2 = .ok (.iload_n 1, 1) := by decide +kernel
theorem dX3_act_3 : decode cX3_act 3 = .ok (.imul, 1) := by decide +kernel
theorem dX3_act_4 : decode cX3_act 4 = .ok (.istore_n 2, 1) := by decide +kernel
theorem dX3_act_5 : decode cX3_act 5 = .ok (.aload_n 0, 1) := by decide +kernel
theorem dX3_act_6 : decode cX3_act 6 = .ok (.getfield 22, 3) := by decide +kernel
theorem dX3_act_9 : decode cX3_act 9 = .ok (.iload_n 2, 1) := by decide +kernel
theorem dX3_act_10 : decode cX3_act 10 = .ok (.iaload, 1) := by decide +kernel
theorem dX3_act_11 : decode cX3_act 11 = .ok (.aload_n 0, 1) := by decide +kernel
theorem dX3_act_12 : decode cX3_act 12 = .ok (.getfield 125, 3) := by decide +kernel
theorem dX3_act_15 : decode cX3_act 15 = .ok (.if_icmp .ne 18, 3) := by decide +kernel
theorem dX3_act_18 : decode cX3_act 18 = .ok (.aload_n 0, 1) := by decide +kernel
theorem dX3_act_19 : decode cX3_act 19 = .ok (.getfield 22, 3) := by decide +kernel
theorem dX3_act_22 : decode cX3_act 22 = .ok (.iload_n 2, 1) := by decide +kernel
theorem dX3_act_23 : decode cX3_act 23 = .ok (.iconst 1, 1) := by decide +kernel
theorem dX3_act_24 : decode cX3_act 24 = .ok (.iadd, 1) := by decide +kernel
theorem dX3_act_25 : decode cX3_act 25 = .ok (.iaload, 1) := by decide +kernel
theorem dX3_act_26 : decode cX3_act 26 = .ok (.aload_n 0, 1) := by decide +kernel
theorem dX3_act_27 : decode cX3_act 27 = .ok (.getfield 128, 3) := by decide +kernel
theorem dX3_act_30 : decode cX3_act 30 = .ok (.if_icmp .eq 4, 3) := by decide +kernel
theorem dX3_act_33 : decode cX3_act 33 = .ok (.return_, 1) := by decide +kernel
theorem dX3_act_34 : decode cX3_act 34 = .ok (.aload_n 0, 1) := by decide +kernel
theorem dX3_act_35 : decode cX3_act 35 = .ok (.getfield 25, 3) := by decide +kernel
theorem dX3_act_38 : decode cX3_act 38 = .ok (.bipush 12, 2) := by decide +kernel
theorem dX3_act_40 : decode cX3_act 40 = .ok (.iload_n 1, 1) := by decide +kernel
theorem dX3_act_41 : decode cX3_act 41 = .ok (.iadd, 1) := by decide +kernel
theorem dX3_act_42 : decode cX3_act 42 = .ok (.dup2, 1) := by decide +kernel
theorem dX3_act_43 : decode cX3_act 43 = .ok (.laload, 1) := by decide +kernel
theorem dX3_act_44 : decode cX3_act 44 = .ok (.lconst 1, 1) := by decide +kernel
theorem dX3_act_45 : decode cX3_act 45 = .ok (.ladd, 1) := by decide +kernel
theorem dX3_act_46 : decode cX3_act 46 = .ok (.lastore, 1) := by decide +kernel
theorem dX3_act_47 : decode cX3_act 47 = .ok (.aload_n 0, 1) := by decide +kernel
theorem dX3_act_48 : decode cX3_act 48 = .ok (.getfield 25, 3) := by decide +kernel
theorem dX3_act_51 : decode cX3_act 51 = .ok (.bipush 12, 2) := by decide +kernel
theorem dX3_act_53 : decode cX3_act 53 = .ok (.iload_n 1, 1) := by decide +kernel
theorem dX3_act_54 : decode cX3_act 54 = .ok (.iadd, 1) := by decide +kernel
theorem dX3_act_55 : decode cX3_act 55 = .ok (.laload, 1) := by decide +kernel
theorem dX3_act_56 : decode cX3_act 56 = .ok (.aload_n 0, 1) := by decide +kernel
theorem dX3_act_57 : decode cX3_act 57 = .ok (.getfield 22, 3) := by decide +kernel
theorem dX3_act_60 : decode cX3_act 60 = .ok (.iload_n 2, 1) := by decide +kernel
theorem dX3_act_61 : decode cX3_act 61 = .ok (.iconst 2, 1) := by decide +kernel
theorem dX3_act_62 : decode cX3_act 62 = .ok (.iadd, 1) := by decide +kernel
theorem dX3_act_63 : decode cX3_act 63 = .ok (.iaload, 1) := by decide +kernel
theorem dX3_act_64 : decode cX3_act 64 = .ok (.i2l, 1) := by decide +kernel
theorem dX3_act_65 : decode cX3_act 65 = .ok (.lcmp, 1) := by decide +kernel
theorem dX3_act_66 : decode cX3_act 66 = .ok (.ifCond .ge 4, 3) := by decide +kernel
theorem dX3_act_69 : decode cX3_act 69 = .ok (.return_, 1) := by decide +kernel
theorem dX3_act_70 : decode cX3_act 70 = .ok (.aload_n 0, 1) := by decide +kernel
theorem dX3_act_71 : decode cX3_act 71 = .ok (.getfield 25, 3) := by decide +kernel
theorem dX3_act_74 : decode cX3_act 74 = .ok (.bipush 12, 2) := by decide +kernel
theorem dX3_act_76 : decode cX3_act 76 = .ok (.iload_n 1, 1) := by decide +kernel
theorem dX3_act_77 : decode cX3_act 77 = .ok (.iadd, 1) := by decide +kernel
theorem dX3_act_78 : decode cX3_act 78 = .ok (.lconst 0, 1) := by decide +kernel
theorem dX3_act_79 : decode cX3_act 79 = .ok (.lastore, 1) := by decide +kernel
theorem dX3_act_80 : decode cX3_act 80 = .ok (.aload_n 0, 1) := by decide +kernel
theorem dX3_act_81 : decode cX3_act 81 = .ok (.getfield 22, 3) := by decide +kernel
theorem dX3_act_84 : decode cX3_act 84 = .ok (.iload_n 2, 1) := by decide +kernel
theorem dX3_act_85 : decode cX3_act 85 = .ok (.iconst 3, 1) := by decide +kernel
theorem dX3_act_86 : decode cX3_act 86 = .ok (.iadd, 1) := by decide +kernel
theorem dX3_act_87 : decode cX3_act 87 = .ok (.iaload, 1) := by decide +kernel
theorem dX3_act_88 : decode cX3_act 88 = .ok (.istore_n 3, 1) := by decide +kernel
theorem dX3_act_89 : decode cX3_act 89 = .ok (.aload_n 0, 1) := by decide +kernel
theorem dX3_act_90 : decode cX3_act 90 = .ok (.getfield 22, 3) := by decide +kernel
theorem dX3_act_93 : decode cX3_act 93 = .ok (.iload_n 2, 1) := by decide +kernel
theorem dX3_act_94 : decode cX3_act 94 = .ok (.iconst 4, 1) := by decide +kernel
theorem dX3_act_95 : decode cX3_act 95 = .ok (.iadd, 1) := by decide +kernel
theorem dX3_act_96 : decode cX3_act 96 = .ok (.iaload, 1) := by decide +kernel
theorem dX3_act_97 : decode cX3_act 97 = .ok (.lookupswitch 171 #[(0, 27), (1, 148)], 27) := by decide +kernel
theorem dX3_act_124 : decode cX3_act 124 = .ok (.aload_n 0, 1) := by decide +kernel
theorem dX3_act_125 : decode cX3_act 125 = .ok (.getfield 25, 3) := by decide +kernel
theorem dX3_act_128 : decode cX3_act 128 = .ok (.iconst 0, 1) := by decide +kernel
theorem dX3_act_129 : decode cX3_act 129 = .ok (.iconst 2, 1) := by decide +kernel
theorem dX3_act_130 : decode cX3_act 130 = .ok (.iload_n 3, 1) := by decide +kernel
theorem dX3_act_131 : decode cX3_act 131 = .ok (.imul, 1) := by decide +kernel
theorem dX3_act_132 : decode cX3_act 132 = .ok (.iadd, 1) := by decide +kernel
theorem dX3_act_133 : decode cX3_act 133 = .ok (.iconst 1, 1) := by decide +kernel
theorem dX3_act_134 : decode cX3_act 134 = .ok (.iadd, 1) := by decide +kernel
theorem dX3_act_135 : decode cX3_act 135 = .ok (.laload, 1) := by decide +kernel
theorem dX3_act_136 : decode cX3_act 136 = .ok (.lstore 4, 2) := by decide +kernel
theorem dX3_act_138 : decode cX3_act 138 = .ok (.aload_n 0, 1) := by decide +kernel
theorem dX3_act_139 : decode cX3_act 139 = .ok (.getfield 25, 3) := by decide +kernel
theorem dX3_act_142 : decode cX3_act 142 = .ok (.iconst 0, 1) := by decide +kernel
theorem dX3_act_143 : decode cX3_act 143 = .ok (.iconst 2, 1) := by decide +kernel
theorem dX3_act_144 : decode cX3_act 144 = .ok (.iload_n 3, 1) := by decide +kernel
theorem dX3_act_145 : decode cX3_act 145 = .ok (.imul, 1) := by decide +kernel
theorem dX3_act_146 : decode cX3_act 146 = .ok (.iadd, 1) := by decide +kernel
theorem dX3_act_147 : decode cX3_act 147 = .ok (.laload, 1) := by decide +kernel
theorem dX3_act_148 : decode cX3_act 148 = .ok (.aload_n 0, 1) := by decide +kernel
theorem dX3_act_149 : decode cX3_act 149 = .ok (.getfield 22, 3) := by decide +kernel
theorem dX3_act_152 : decode cX3_act 152 = .ok (.iload_n 2, 1) := by decide +kernel
theorem dX3_act_153 : decode cX3_act 153 = .ok (.iconst 5, 1) := by decide +kernel
theorem dX3_act_154 : decode cX3_act 154 = .ok (.iadd, 1) := by decide +kernel
theorem dX3_act_155 : decode cX3_act 155 = .ok (.iaload, 1) := by decide +kernel
theorem dX3_act_156 : decode cX3_act 156 = .ok (.i2l, 1) := by decide +kernel
theorem dX3_act_157 : decode cX3_act 157 = .ok (.lload 4, 2) := by decide +kernel
theorem dX3_act_159 : decode cX3_act 159 = .ok (.lmul, 1) := by decide +kernel
theorem dX3_act_160 : decode cX3_act 160 = .ok (.ladd, 1) := by decide +kernel
theorem dX3_act_161 : decode cX3_act 161 = .ok (.lstore 6, 2) := by decide +kernel
theorem dX3_act_163 : decode cX3_act 163 = .ok (.lload 6, 2) := by decide +kernel
theorem dX3_act_165 : decode cX3_act 165 = .ok (.aload_n 0, 1) := by decide +kernel
theorem dX3_act_166 : decode cX3_act 166 = .ok (.getfield 13, 3) := by decide +kernel
theorem dX3_act_169 : decode cX3_act 169 = .ok (.iload_n 3, 1) := by decide +kernel
theorem dX3_act_170 : decode cX3_act 170 = .ok (.iaload, 1) := by decide +kernel
theorem dX3_act_171 : decode cX3_act 171 = .ok (.i2l, 1) := by decide +kernel
theorem dX3_act_172 : decode cX3_act 172 = .ok (.lload 4, 2) := by decide +kernel
theorem dX3_act_174 : decode cX3_act 174 = .ok (.lmul, 1) := by decide +kernel
theorem dX3_act_175 : decode cX3_act 175 = .ok (.lcmp, 1) := by decide +kernel
theorem dX3_act_176 : decode cX3_act 176 = .ok (.ifCond .le 16, 3) := by decide +kernel
theorem dX3_act_179 : decode cX3_act 179 = .ok (.aload_n 0, 1) := by decide +kernel
theorem dX3_act_180 : decode cX3_act 180 = .ok (.getfield 13, 3) := by decide +kernel
theorem dX3_act_183 : decode cX3_act 183 = .ok (.iload_n 3, 1) := by decide +kernel
theorem dX3_act_184 : decode cX3_act 184 = .ok (.iaload, 1) := by decide +kernel
theorem dX3_act_185 : decode cX3_act 185 = .ok (.i2l, 1) := by decide +kernel
theorem dX3_act_186 : decode cX3_act 186 = .ok (.lload 4, 2) := by decide +kernel
theorem dX3_act_188 : decode cX3_act 188 = .ok (.lmul, 1) := by decide +kernel
theorem dX3_act_189 : decode cX3_act 189 = .ok (.goto 34, 3) := by decide +kernel
theorem dX3_act_192 : decode cX3_act 192 = .ok (.lload 6, 2) := by decide +kernel
theorem dX3_act_194 : decode cX3_act 194 = .ok (.aload_n 0, 1) := by decide +kernel
theorem dX3_act_195 : decode cX3_act 195 = .ok (.getfield 9, 3) := by decide +kernel
theorem dX3_act_198 : decode cX3_act 198 = .ok (.iload_n 3, 1) := by decide +kernel
theorem dX3_act_199 : decode cX3_act 199 = .ok (.iaload, 1) := by decide +kernel
theorem dX3_act_200 : decode cX3_act 200 = .ok (.i2l, 1) := by decide +kernel
theorem dX3_act_201 : decode cX3_act 201 = .ok (.lload 4, 2) := by decide +kernel
theorem dX3_act_203 : decode cX3_act 203 = .ok (.lmul, 1) := by decide +kernel
theorem dX3_act_204 : decode cX3_act 204 = .ok (.lcmp, 1) := by decide +kernel
theorem dX3_act_205 : decode cX3_act 205 = .ok (.ifCond .ge 16, 3) := by decide +kernel
theorem dX3_act_208 : decode cX3_act 208 = .ok (.aload_n 0, 1) := by decide +kernel
theorem dX3_act_209 : decode cX3_act 209 = .ok (.getfield 9, 3) := by decide +kernel
theorem dX3_act_212 : decode cX3_act 212 = .ok (.iload_n 3, 1) := by decide +kernel
theorem dX3_act_213 : decode cX3_act 213 = .ok (.iaload, 1) := by decide +kernel
theorem dX3_act_214 : decode cX3_act 214 = .ok (.i2l, 1) := by decide +kernel
theorem dX3_act_215 : decode cX3_act 215 = .ok (.lload 4, 2) := by decide +kernel
theorem dX3_act_217 : decode cX3_act 217 = .ok (.lmul, 1) := by decide +kernel
theorem dX3_act_218 : decode cX3_act 218 = .ok (.goto 5, 3) := by decide +kernel
theorem dX3_act_221 : decode cX3_act 221 = .ok (.lload 6, 2) := by decide +kernel
theorem dX3_act_223 : decode cX3_act 223 = .ok (.lstore 6, 2) := by decide +kernel
theorem dX3_act_225 : decode cX3_act 225 = .ok (.aload_n 0, 1) := by decide +kernel
theorem dX3_act_226 : decode cX3_act 226 = .ok (.lload 6, 2) := by decide +kernel
theorem dX3_act_228 : decode cX3_act 228 = .ok (.lload 4, 2) := by decide +kernel
theorem dX3_act_230 : decode cX3_act 230 = .ok (.invokevirtual 107, 3) := by decide +kernel
theorem dX3_act_233 : decode cX3_act 233 = .ok (.aload_n 0, 1) := by decide +kernel
theorem dX3_act_234 : decode cX3_act 234 = .ok (.iconst 0, 1) := by decide +kernel
theorem dX3_act_235 : decode cX3_act 235 = .ok (.iconst 2, 1) := by decide +kernel
theorem dX3_act_236 : decode cX3_act 236 = .ok (.iload_n 3, 1) := by decide +kernel
theorem dX3_act_237 : decode cX3_act 237 = .ok (.imul, 1) := by decide +kernel
theorem dX3_act_238 : decode cX3_act 238 = .ok (.iadd, 1) := by decide +kernel
theorem dX3_act_239 : decode cX3_act 239 = .ok (.invokevirtual 131, 3) := by decide +kernel
theorem dX3_act_242 : decode cX3_act 242 = .ok (.goto 46, 3) := by decide +kernel
theorem dX3_act_245 : decode cX3_act 245 = .ok (.aload_n 0, 1) := by decide +kernel
theorem dX3_act_246 : decode cX3_act 246 = .ok (.getfield 25, 3) := by decide +kernel
theorem dX3_act_249 : decode cX3_act 249 = .ok (.bipush 8, 2) := by decide +kernel
theorem dX3_act_251 : decode cX3_act 251 = .ok (.iload_n 3, 1) := by decide +kernel
theorem dX3_act_252 : decode cX3_act 252 = .ok (.iadd, 1) := by decide +kernel
theorem dX3_act_253 : decode cX3_act 253 = .ok (.lconst 1, 1) := by decide +kernel
theorem dX3_act_254 : decode cX3_act 254 = .ok (.aload_n 0, 1) := by decide +kernel
theorem dX3_act_255 : decode cX3_act 255 = .ok (.getfield 25, 3) := by decide +kernel
theorem dX3_act_258 : decode cX3_act 258 = .ok (.bipush 8, 2) := by decide +kernel
theorem dX3_act_260 : decode cX3_act 260 = .ok (.iload_n 3, 1) := by decide +kernel
theorem dX3_act_261 : decode cX3_act 261 = .ok (.iadd, 1) := by decide +kernel
theorem dX3_act_262 : decode cX3_act 262 = .ok (.laload, 1) := by decide +kernel
theorem dX3_act_263 : decode cX3_act 263 = .ok (.lsub, 1) := by decide +kernel
theorem dX3_act_264 : decode cX3_act 264 = .ok (.lastore, 1) := by decide +kernel
theorem dX3_act_265 : decode cX3_act 265 = .ok (.goto 23, 3) := by decide +kernel
theorem dX3_act_268 : decode cX3_act 268 = .ok (.aload_n 0, 1) := by decide +kernel
theorem dX3_act_269 : decode cX3_act 269 = .ok (.getfield 25, 3) := by decide +kernel
theorem dX3_act_272 : decode cX3_act 272 = .ok (.bipush 8, 2) := by decide +kernel
theorem dX3_act_274 : decode cX3_act 274 = .ok (.iload_n 3, 1) := by decide +kernel
theorem dX3_act_275 : decode cX3_act 275 = .ok (.iadd, 1) := by decide +kernel
theorem dX3_act_276 : decode cX3_act 276 = .ok (.lconst 1, 1) := by decide +kernel
theorem dX3_act_277 : decode cX3_act 277 = .ok (.aload_n 0, 1) := by decide +kernel
theorem dX3_act_278 : decode cX3_act 278 = .ok (.getfield 22, 3) := by decide +kernel
theorem dX3_act_281 : decode cX3_act 281 = .ok (.iload_n 2, 1) := by decide +kernel
theorem dX3_act_282 : decode cX3_act 282 = .ok (.iconst 5, 1) := by decide +kernel
theorem dX3_act_283 : decode cX3_act 283 = .ok (.iadd, 1) := by decide +kernel
theorem dX3_act_284 : decode cX3_act 284 = .ok (.iaload, 1) := by decide +kernel
theorem dX3_act_285 : decode cX3_act 285 = .ok (.i2l, 1) := by decide +kernel
theorem dX3_act_286 : decode cX3_act 286 = .ok (.lsub, 1) := by decide +kernel
theorem dX3_act_287 : decode cX3_act 287 = .ok (.lastore, 1) := by decide +kernel
theorem dX3_act_288 : decode cX3_act 288 = .ok (.return_, 1) := by decide +kernel
set_option maxRecDepth 20000 in
theorem ggX3_run_X3_in : GoodIn wsX3_run wsX3_in := goodIn_r _ [5] (by decide +kernel) (by decide +kernel)
set_option maxRecDepth 20000 in
theorem gX3_run_X3_in : GoodIn wsX3_run (va_wsS RX3 76 yX3_in wsX3_in) := goodIn_app (goodIn_of _ (by decide +kernel)) ggX3_run_X3_in
set_option maxRecDepth 20000 in
theorem ggX3_run_X3_step : GoodIn wsX3_run wsX3_step := goodIn_r _ [9, 10, 11, 12, 13, 14, 15, 16, 17, 18, 19, 20, 21, 22, 23, 24, 25, 26, 27, 4, 28, 29, 30, 31, 32, 33, 34, 35, 36, 37, 38, 39, 40, 41, 42, 43, 44, 45, 46, 47, 48, 49, 50, 51, 52, 53, 54, 55, 56, 57, 58, 59, 60, 61, 62, 63, 64, 65, 66, 67, 68, 69, 70, 71, 72, 73, 74, 75, 76, 77, 78, 79, 80, 81, 82, 83, 84, 85, 86, 87, 88, 89, 90, 91, 92, 93, 94] (by decide +kernel) (by decide +kernel)
set_option maxRecDepth 20000 in
theorem gX3_run_X3_step : GoodIn wsX3_run (wsV RX3 143 RX3 yX3_step wsX3_step) := goodIn_app (goodIn_of _ (by decide +kernel)) ggX3_run_X3_step
theorem dX3_run_0 : decode cX3_run 0 = .ok (.aload_n 0, 1) := by decide +kernel
theorem dX3_run_1 : decode cX3_run 1 = .ok (.iconst 0, 1) := by decide +kernel
theorem dX3_run_2 : decode cX3_run 2 = .ok (.putfield 69, 3) := by decide +kernel
theorem dX3_run_5 : decode cX3_run 5 = .ok (.iload_n 1, 1) := by decide +kernel
theorem dX3_run_6 : decode cX3_run 6 = .ok (.iconst 0, 1) := by decide +kernel
theorem dX3_run_7 : decode cX3_run 7 = .ok (.sipush 500, 3) := by decide +kernel
theorem dX3_run_10 : decode cX3_run 10 = .ok (.invokestatic 76, 3) := by decide +kernel
theorem dX3_run_13 : decode cX3_run 13 = .ok (.ifCond .ne 5, 3) := by decide +kernel
theorem dX3_run_16 : decode cX3_run 16 = .ok (.iconst (-1), 1) := by decide +kernel
theorem dX3_run_17 : decode cX3_run 17 = .ok (.ireturn, 1) := by decide +kernel
theorem dX3_run_18 : decode cX3_run 18 = .ok (.iconst 0, 1) := by decide +kernel
theorem dX3_run_19 : decode cX3_run 19 = .ok (.istore_n 2, 1) := by decide +kernel
theorem dX3_run_20 : decode cX3_run 20 = .ok (.iload_n 2, 1) := by decide +kernel
theorem dX3_run_21 : decode cX3_run 21 = .ok (.iload_n 1, 1) := by decide +kernel
theorem dX3_run_22 : decode cX3_run 22 = .ok (.if_icmp .ge 16, 3) := by decide +kernel
theorem dX3_run_25 : decode cX3_run 25 = .ok (.aload_n 0, 1) := by decide +kernel
theorem dX3_run_26 : decode cX3_run 26 = .ok (.invokevirtual 143, 3) := by decide +kernel
theorem dX3_run_29 : decode cX3_run 29 = .ok (.ifCond .eq 9, 3) := by decide +kernel
theorem dX3_run_32 : decode cX3_run 32 = .ok (.iinc 2 1, 3) := by decide +kernel
theorem dX3_run_35 : decode cX3_run 35 = .ok (.goto (-15), 3) := by decide +kernel
theorem dX3_run_38 : decode cX3_run 38 = .ok (.iload_n 2, 1) := by decide +kernel
theorem dX3_run_39 : decode cX3_run 39 = .ok (.ireturn, 1) := by decide +kernel
set_option maxRecDepth 20000 in
theorem ggX3_wouldBeSpent_X3_copy : GoodIn wsX3_wouldBeSpent wsX3_copy := goodIn_r _ [8] (by decide +kernel) (by decide +kernel)
set_option maxRecDepth 20000 in
theorem gX3_wouldBeSpent_X3_copy : GoodIn wsX3_wouldBeSpent (va_wsS RX3 117 yX3_copy wsX3_copy) := goodIn_app (goodIn_of _ (by decide +kernel)) ggX3_wouldBeSpent_X3_copy
set_option maxRecDepth 20000 in
theorem ggX3_wouldBeSpent_X3_step : GoodIn wsX3_wouldBeSpent wsX3_step := goodIn_r _ [12, 1, 2, 13, 14, 15, 16, 17, 18, 19, 20, 4, 21, 22, 23, 24, 25, 5, 6, 7, 8, 26, 27, 28, 29, 30, 31, 32, 33, 34, 35, 36, 37, 38, 39, 40, 41, 42, 43, 44, 45, 46, 47, 48, 49, 50, 51, 52, 53, 54, 55, 56, 57, 58, 59, 60, 61, 62, 63, 64, 65, 66, 67, 68, 69, 70, 71, 72, 73, 74, 75, 76, 77, 78, 79, 80, 81, 82, 83, 84, 85, 86, 87, 88, 89, 90, 91] (by decide +kernel) (by decide +kernel)
set_option maxRecDepth 20000 in
theorem gX3_wouldBeSpent_X3_step : GoodIn wsX3_wouldBeSpent (wsV RX3 143 RX3 yX3_step wsX3_step) := goodIn_app (goodIn_of _ (by decide +kernel)) ggX3_wouldBeSpent_X3_step
theorem dX3_wouldBeSpent_0 : decode cX3_wouldBeSpent 0 = .ok (.aload_n 0, 1) := by decide +kernel
theorem dX3_wouldBeSpent_1 : decode cX3_wouldBeSpent 1 = .ok (.getfield 73, 3) := by decide +kernel
theorem dX3_wouldBeSpent_4 : decode cX3_wouldBeSpent 4 = .ok (.ifCond .ne 5, 3) := by decide +kernel
theorem dX3_wouldBeSpent_7 : decode cX3_wouldBeSpent 7 = .ok (.iconst 0, 1) := by decide +kernel
theorem dX3_wouldBeSpent_8 : decode cX3_wouldBeSpent 8 = .ok (.ireturn, 1) := by decide +kernel
theorem dX3_wouldBeSpent_9 : decode cX3_wouldBeSpent 9 = .ok (.aload_n 0, 1) := by decide +kernel
theorem dX3_wouldBeSpent_10 : decode cX3_wouldBeSpent 10 = .ok (.getfield 25, 3) := by decide +kernel
theorem dX3_wouldBeSpent_13 : decode cX3_wouldBeSpent 13 = .ok (.aload_n 0, 1) := by decide +kernel
theorem dX3_wouldBeSpent_14 : decode cX3_wouldBeSpent 14 = .ok (.getfield 32, 3) := by decide +kernel
theorem dX3_wouldBeSpent_17 : decode cX3_wouldBeSpent 17 = .ok (.invokestatic 117, 3) := by decide +kernel
theorem dX3_wouldBeSpent_20 : decode cX3_wouldBeSpent 20 = .ok (.aload_n 0, 1) := by decide +kernel
theorem dX3_wouldBeSpent_21 : decode cX3_wouldBeSpent 21 = .ok (.iconst 0, 1) := by decide +kernel
theorem dX3_wouldBeSpent_22 : decode cX3_wouldBeSpent 22 = .ok (.putfield 47, 3) := by decide +kernel
theorem dX3_wouldBeSpent_25 : decode cX3_wouldBeSpent 25 = .ok (.aload_n 0, 1) := by decide +kernel
theorem dX3_wouldBeSpent_26 : decode cX3_wouldBeSpent 26 = .ok (.invokevirtual 143, 3) := by decide +kernel
theorem dX3_wouldBeSpent_29 : decode cX3_wouldBeSpent 29 = .ok (.ifCond .ne 7, 3) := by decide +kernel
theorem dX3_wouldBeSpent_32 : decode cX3_wouldBeSpent 32 = .ok (.iconst 1, 1) := by decide +kernel
theorem dX3_wouldBeSpent_33 : decode cX3_wouldBeSpent 33 = .ok (.goto 4, 3) := by decide +kernel
theorem dX3_wouldBeSpent_36 : decode cX3_wouldBeSpent 36 = .ok (.iconst 0, 1) := by decide +kernel
theorem dX3_wouldBeSpent_37 : decode cX3_wouldBeSpent 37 = .ok (.istore_n 1, 1) := by decide +kernel
theorem dX3_wouldBeSpent_38 : decode cX3_wouldBeSpent 38 = .ok (.aload_n 0, 1) := by decide +kernel
theorem dX3_wouldBeSpent_39 : decode cX3_wouldBeSpent 39 = .ok (.iconst 1, 1) := by decide +kernel
theorem dX3_wouldBeSpent_40 : decode cX3_wouldBeSpent 40 = .ok (.putfield 47, 3) := by decide +kernel
theorem dX3_wouldBeSpent_43 : decode cX3_wouldBeSpent 43 = .ok (.aload_n 0, 1) := by decide +kernel
theorem dX3_wouldBeSpent_44 : decode cX3_wouldBeSpent 44 = .ok (.getfield 32, 3) := by decide +kernel
theorem dX3_wouldBeSpent_47 : decode cX3_wouldBeSpent 47 = .ok (.aload_n 0, 1) := by decide +kernel
theorem dX3_wouldBeSpent_48 : decode cX3_wouldBeSpent 48 = .ok (.getfield 25, 3) := by decide +kernel
theorem dX3_wouldBeSpent_51 : decode cX3_wouldBeSpent 51 = .ok (.invokestatic 117, 3) := by decide +kernel
theorem dX3_wouldBeSpent_54 : decode cX3_wouldBeSpent 54 = .ok (.iload_n 1, 1) := by decide +kernel
theorem dX3_wouldBeSpent_55 : decode cX3_wouldBeSpent 55 = .ok (.ireturn, 1) := by decide +kernel
set_option maxRecDepth 20000 in
theorem ggX3_count_X3_wouldBeSpent : GoodIn wsX3_count wsX3_wouldBeSpent := goodIn_r _ [11, 2, 4, 12, 13, 14, 15, 10, 16, 17, 18, 19, 20, 21, 22, 23, 24, 25, 26, 27, 3, 28, 29, 30, 31, 32, 33, 34, 35, 36, 37, 38, 39, 40, 41, 42, 43, 44, 45, 46, 47, 48, 49, 50, 51, 52, 53, 54, 55, 56, 57, 58, 59, 60, 61, 62, 63, 64, 65, 66, 67, 68, 69, 70, 71, 72, 73, 74, 75, 76, 77, 78, 79, 80, 81, 82, 83, 84, 85, 86, 87, 88, 89, 90, 91, 92, 93, 94, 95, 96, 97, 98] (by decide +kernel) (by decide +kernel)
set_option maxRecDepth 20000 in
theorem gX3_count_X3_wouldBeSpent : GoodIn wsX3_count (wsV RX3 146 RX3 yX3_wouldBeSpent wsX3_wouldBeSpent) := goodIn_app (goodIn_of _ (by decide +kernel)) ggX3_count_X3_wouldBeSpent
theorem dX3_count_0 : decode cX3_count 0 = .ok (.aload_n 0, 1) := by decide +kernel
theorem dX3_count_1 : decode cX3_count 1 = .ok (.iconst 0, 1) := by decide +kernel
theorem dX3_count_2 : decode cX3_count 2 = .ok (.putfield 69, 3) := by decide +kernel
theorem dX3_count_5 : decode cX3_count 5 = .ok (.iload_n 1, 1) := by decide +kernel
theorem dX3_count_6 : decode cX3_count 6 = .ok (.tableswitch 106 0 7 #[46, 51, 56, 65, 74, 83, 96, 101], 46) := by decide +kernel
theorem dX3_count_52 : decode cX3_count 52 = .ok (.aload_n 0, 1) := by decide +kernel
theorem dX3_count_53 : decode cX3_count 53 = .ok (.getfield 73, 3) := by decide +kernel
theorem dX3_count_56 : decode cX3_count 56 = .ok (.ireturn, 1) := by decide +kernel
theorem dX3_count_57 : decode cX3_count 57 = .ok (.aload_n 0, 1) := by decide +kernel
theorem dX3_count_58 : decode cX3_count 58 = .ok (.getfield 101, 3) := by decide +kernel
theorem dX3_count_61 : decode cX3_count 61 = .ok (.ireturn, 1) := by decide +kernel
theorem dX3_count_62 : decode cX3_count 62 = .ok (.aload_n 0, 1) := by decide +kernel
theorem dX3_count_63 : decode cX3_count 63 = .ok (.getfield 25, 3) := by decide +kernel
theorem dX3_count_66 : decode cX3_count 66 = .ok (.bipush 30, 2) := by decide +kernel
theorem dX3_count_68 : decode cX3_count 68 = .ok (.laload, 1) := by decide +kernel
theorem dX3_count_69 : decode cX3_count 69 = .ok (.l2i, 1) := by decide +kernel
theorem dX3_count_70 : decode cX3_count 70 = .ok (.ireturn, 1) := by decide +kernel
theorem dX3_count_71 : decode cX3_count 71 = .ok (.aload_n 0, 1) := by decide +kernel
theorem dX3_count_72 : decode cX3_count 72 = .ok (.getfield 25, 3) := by decide +kernel
theorem dX3_count_75 : decode cX3_count 75 = .ok (.bipush 20, 2) := by decide +kernel
theorem dX3_count_77 : decode cX3_count 77 = .ok (.laload, 1) := by decide +kernel
theorem dX3_count_78 : decode cX3_count 78 = .ok (.l2i, 1) := by decide +kernel
theorem dX3_count_79 : decode cX3_count 79 = .ok (.ireturn, 1) := by decide +kernel
theorem dX3_count_80 : decode cX3_count 80 = .ok (.aload_n 0, 1) := by decide +kernel
theorem dX3_count_81 : decode cX3_count 81 = .ok (.getfield 25, 3) := by decide +kernel
theorem dX3_count_84 : decode cX3_count 84 = .ok (.bipush 21, 2) := by decide +kernel
theorem dX3_count_86 : decode cX3_count 86 = .ok (.laload, 1) := by decide +kernel
theorem dX3_count_87 : decode cX3_count 87 = .ok (.l2i, 1) := by decide +kernel
theorem dX3_count_88 : decode cX3_count 88 = .ok (.ireturn, 1) := by decide +kernel
theorem dX3_count_89 : decode cX3_count 89 = .ok (.aload_n 0, 1) := by decide +kernel
theorem dX3_count_90 : decode cX3_count 90 = .ok (.invokevirtual 146, 3) := by decide +kernel
theorem dX3_count_93 : decode cX3_count 93 = .ok (.ifCond .eq 7, 3) := by decide +kernel
theorem dX3_count_96 : decode cX3_count 96 = .ok (.iconst 1, 1) := by decide +kernel
theorem dX3_count_97 : decode cX3_count 97 = .ok (.goto 4, 3) := by decide +kernel
theorem dX3_count_100 : decode cX3_count 100 = .ok (.iconst 0, 1) := by decide +kernel
theorem dX3_count_101 : decode cX3_count 101 = .ok (.ireturn, 1) := by decide +kernel
theorem dX3_count_102 : decode cX3_count 102 = .ok (.aload_n 0, 1) := by decide +kernel
theorem dX3_count_103 : decode cX3_count 103 = .ok (.getfield 149, 3) := by decide +kernel
theorem dX3_count_106 : decode cX3_count 106 = .ok (.ireturn, 1) := by decide +kernel
theorem dX3_count_107 : decode cX3_count 107 = .ok (.aload_n 0, 1) := by decide +kernel
theorem dX3_count_108 : decode cX3_count 108 = .ok (.getfield 152, 3) := by decide +kernel
theorem dX3_count_111 : decode cX3_count 111 = .ok (.ireturn, 1) := by decide +kernel
theorem dX3_count_112 : decode cX3_count 112 = .ok (.iconst (-1), 1) := by decide +kernel
theorem dX3_count_113 : decode cX3_count 113 = .ok (.ireturn, 1) := by decide +kernel
set_option maxRecDepth 20000 in
theorem ggX3_beat_X3_make : GoodIn wsX3_beat wsX3_make := goodIn_r _ [7, 8, 9, 10, 11, 12, 13, 14, 15, 6, 16, 17, 18, 19, 20, 21, 22, 23, 24, 25, 26, 27, 28, 29, 30, 31, 32, 33, 34, 35, 36, 37, 38, 39, 40, 41, 42, 43, 44] (by decide +kernel) (by decide +kernel)
set_option maxRecDepth 20000 in
theorem gX3_beat_X3_make : GoodIn wsX3_beat (wsV RX3 107 RX3 yX3_make wsX3_make) := goodIn_app (goodIn_of _ (by decide +kernel)) ggX3_beat_X3_make
theorem dX3_beat_0 : decode cX3_beat 0 = .ok (.aload_n 0, 1) := by decide +kernel
theorem dX3_beat_1 : decode cX3_beat 1 = .ok (.aload_n 0, 1) := by decide +kernel
theorem dX3_beat_2 : decode cX3_beat 2 = .ok (.getfield 13, 3) := by decide +kernel
theorem dX3_beat_5 : decode cX3_beat 5 = .ok (.iload_n 1, 1) := by decide +kernel
theorem dX3_beat_6 : decode cX3_beat 6 = .ok (.iaload, 1) := by decide +kernel
theorem dX3_beat_7 : decode cX3_beat 7 = .ok (.aload_n 0, 1) := by decide +kernel
theorem dX3_beat_8 : decode cX3_beat 8 = .ok (.getfield 9, 3) := by decide +kernel
theorem dX3_beat_11 : decode cX3_beat 11 = .ok (.iload_n 1, 1) := by decide +kernel
theorem dX3_beat_12 : decode cX3_beat 12 = .ok (.iaload, 1) := by decide +kernel
theorem dX3_beat_13 : decode cX3_beat 13 = .ok (.isub, 1) := by decide +kernel
theorem dX3_beat_14 : decode cX3_beat 14 = .ok (.i2l, 1) := by decide +kernel
theorem dX3_beat_15 : decode cX3_beat 15 = .ok (.iload_n 2, 1) := by decide +kernel
theorem dX3_beat_16 : decode cX3_beat 16 = .ok (.iload_n 3, 1) := by decide +kernel
theorem dX3_beat_17 : decode cX3_beat 17 = .ok (.iadd, 1) := by decide +kernel
theorem dX3_beat_18 : decode cX3_beat 18 = .ok (.i2l, 1) := by decide +kernel
theorem dX3_beat_19 : decode cX3_beat 19 = .ok (.lmul, 1) := by decide +kernel
theorem dX3_beat_20 : decode cX3_beat 20 = .ok (.iload_n 2, 1) := by decide +kernel
theorem dX3_beat_21 : decode cX3_beat 21 = .ok (.i2l, 1) := by decide +kernel
theorem dX3_beat_22 : decode cX3_beat 22 = .ok (.iload_n 3, 1) := by decide +kernel
theorem dX3_beat_23 : decode cX3_beat 23 = .ok (.i2l, 1) := by decide +kernel
theorem dX3_beat_24 : decode cX3_beat 24 = .ok (.lmul, 1) := by decide +kernel
theorem dX3_beat_25 : decode cX3_beat 25 = .ok (.invokevirtual 107, 3) := by decide +kernel
theorem dX3_beat_28 : decode cX3_beat 28 = .ok (.return_, 1) := by decide +kernel
set_option maxRecDepth 20000 in
theorem ggX3_of_X3_isCell : GoodIn wsX3_of wsX3_isCell := goodIn_r _ [11, 12, 13, 14, 10, 15, 33, 34, 35, 36, 37, 38, 39, 40, 41, 42, 43, 44, 45, 46, 47, 48, 49, 50, 51, 52, 53, 54, 55, 56, 57, 58, 59, 60] (by decide +kernel) (by decide +kernel)
set_option maxRecDepth 20000 in
theorem gX3_of_X3_isCell : GoodIn wsX3_of (wsV RX3 97 RX3 yX3_isCell wsX3_isCell) := goodIn_app (goodIn_of _ (by decide +kernel)) ggX3_of_X3_isCell
set_option maxRecDepth 20000 in
theorem ggX3_of_X3_in : GoodIn wsX3_of wsX3_in := goodIn_r _ [15] (by decide +kernel) (by decide +kernel)
set_option maxRecDepth 20000 in
theorem gX3_of_X3_in : GoodIn wsX3_of (va_wsS RX3 76 yX3_in wsX3_in) := goodIn_app (goodIn_of _ (by decide +kernel)) ggX3_of_X3_in
set_option maxRecDepth 20000 in
theorem ggX3_of_X3_beat : GoodIn wsX3_of wsX3_beat := goodIn_r _ [19, 20, 21, 22, 23, 24, 10, 25, 26, 27, 28, 29, 5, 6, 30, 31, 32, 33, 34, 35, 36, 37, 38, 39, 40, 41, 42, 43, 44, 45, 46, 47, 48, 49, 50, 51, 52, 53, 54, 55, 56, 57, 58, 59, 60] (by decide +kernel) (by decide +kernel)
set_option maxRecDepth 20000 in
theorem gX3_of_X3_beat : GoodIn wsX3_of (wsV RX3 155 RX3 yX3_beat wsX3_beat) := goodIn_app (goodIn_of _ (by decide +kernel)) ggX3_of_X3_beat
theorem dX3_of_0 : decode cX3_of 0 = .ok (.aload_n 0, 1) := by decide +kernel
theorem dX3_of_1 : decode cX3_of 1 = .ok (.iconst 0, 1) := by decide +kernel
theorem dX3_of_2 : decode cX3_of 2 = .ok (.putfield 69, 3) := by decide +kernel
theorem dX3_of_5 : decode cX3_of 5 = .ok (.aload_n 0, 1) := by decide +kernel
theorem dX3_of_6 : decode cX3_of 6 = .ok (.iload_n 1, 1) := by decide +kernel
theorem dX3_of_7 : decode cX3_of 7 = .ok (.invokevirtual 97, 3) := by decide +kernel
theorem dX3_of_10 : decode cX3_of 10 = .ok (.ifCond .eq 13, 3) := by decide +kernel
theorem dX3_of_13 : decode cX3_of 13 = .ok (.iload_n 2, 1) := by decide +kernel
theorem dX3_of_14 : decode cX3_of 14 = .ok (.iconst 0, 1) := by decide +kernel
theorem dX3_of_15 : decode cX3_of 15 = .ok (.bipush 6, 2) := by decide +kernel
theorem dX3_of_17 : decode cX3_of 17 = .ok (.invokestatic 76, 3) := by decide +kernel
theorem dX3_of_20 : decode cX3_of 20 = .ok (.ifCond .ne 10, 3) := by decide +kernel
theorem dX3_of_23 : decode cX3_of 23 = .ok (.aload_n 0, 1) := by decide +kernel
theorem dX3_of_24 : decode cX3_of 24 = .ok (.iconst 1, 1) := by decide +kernel
theorem dX3_of_25 : decode cX3_of 25 = .ok (.putfield 69, 3) := by decide +kernel
theorem dX3_of_28 : decode cX3_of 28 = .ok (.iconst 0, 1) := by decide +kernel
theorem dX3_of_29 : decode cX3_of 29 = .ok (.ireturn, 1) := by decide +kernel
theorem dX3_of_30 : decode cX3_of 30 = .ok (.aload_n 0, 1) := by decide +kernel
theorem dX3_of_31 : decode cX3_of 31 = .ok (.iload_n 1, 1) := by decide +kernel
theorem dX3_of_32 : decode cX3_of 32 = .ok (.aload_n 0, 1) := by decide +kernel
theorem dX3_of_33 : decode cX3_of 33 = .ok (.getfield 16, 3) := by decide +kernel
theorem dX3_of_36 : decode cX3_of 36 = .ok (.iload_n 1, 1) := by decide +kernel
theorem dX3_of_37 : decode cX3_of 37 = .ok (.iaload, 1) := by decide +kernel
theorem dX3_of_38 : decode cX3_of 38 = .ok (.aload_n 0, 1) := by decide +kernel
theorem dX3_of_39 : decode cX3_of 39 = .ok (.getfield 19, 3) := by decide +kernel
theorem dX3_of_42 : decode cX3_of 42 = .ok (.iload_n 1, 1) := by decide +kernel
theorem dX3_of_43 : decode cX3_of 43 = .ok (.iaload, 1) := by decide +kernel
theorem dX3_of_44 : decode cX3_of 44 = .ok (.invokevirtual 155, 3) := by decide +kernel
theorem dX3_of_47 : decode cX3_of 47 = .ok (.iload_n 2, 1) := by decide +kernel
theorem dX3_of_48 : decode cX3_of 48 = .ok (.tableswitch 105 0 5 #[40, 52, 66, 77, 88, 99], 40) := by decide +kernel
theorem dX3_of_88 : decode cX3_of 88 = .ok (.aload_n 0, 1) := by decide +kernel
theorem dX3_of_89 : decode cX3_of 89 = .ok (.getfield 25, 3) := by decide +kernel
theorem dX3_of_92 : decode cX3_of 92 = .ok (.iconst 0, 1) := by decide +kernel
theorem dX3_of_93 : decode cX3_of 93 = .ok (.iconst 2, 1) := by decide +kernel
theorem dX3_of_94 : decode cX3_of 94 = .ok (.iload_n 1, 1) := by decide +kernel
theorem dX3_of_95 : decode cX3_of 95 = .ok (.imul, 1) := by decide +kernel
theorem dX3_of_96 : decode cX3_of 96 = .ok (.iadd, 1) := by decide +kernel
theorem dX3_of_97 : decode cX3_of 97 = .ok (.laload, 1) := by decide +kernel
theorem dX3_of_98 : decode cX3_of 98 = .ok (.l2i, 1) := by decide +kernel
theorem dX3_of_99 : decode cX3_of 99 = .ok (.ireturn, 1) := by decide +kernel
theorem dX3_of_100 : decode cX3_of 100 = .ok (.aload_n 0, 1) := by decide +kernel
theorem dX3_of_101 : decode cX3_of 101 = .ok (.getfield 25, 3) := by decide +kernel
theorem dX3_of_104 : decode cX3_of 104 = .ok (.iconst 0, 1) := by decide +kernel
theorem dX3_of_105 : decode cX3_of 105 = .ok (.iconst 2, 1) := by decide +kernel
theorem dX3_of_106 : decode cX3_of 106 = .ok (.iload_n 1, 1) := by decide +kernel
theorem dX3_of_107 : decode cX3_of 107 = .ok (.imul, 1) := by decide +kernel
theorem dX3_of_108 : decode cX3_of 108 = .ok (.iadd, 1) := by decide +kernel
theorem dX3_of_109 : decode cX3_of 109 = .ok (.iconst 1, 1) := by decide +kernel
theorem dX3_of_110 : decode cX3_of 110 = .ok (.iadd, 1) := by decide +kernel
theorem dX3_of_111 : decode cX3_of 111 = .ok (.laload, 1) := by decide +kernel
theorem dX3_of_112 : decode cX3_of 112 = .ok (.l2i, 1) := by decide +kernel
theorem dX3_of_113 : decode cX3_of 113 = .ok (.ireturn, 1) := by decide +kernel
theorem dX3_of_114 : decode cX3_of 114 = .ok (.aload_n 0, 1) := by decide +kernel
theorem dX3_of_115 : decode cX3_of 115 = .ok (.getfield 25, 3) := by decide +kernel
theorem dX3_of_118 : decode cX3_of 118 = .ok (.bipush 8, 2) := by decide +kernel
theorem dX3_of_120 : decode cX3_of 120 = .ok (.iload_n 1, 1) := by decide +kernel
theorem dX3_of_121 : decode cX3_of 121 = .ok (.iadd, 1) := by decide +kernel
theorem dX3_of_122 : decode cX3_of 122 = .ok (.laload, 1) := by decide +kernel
theorem dX3_of_123 : decode cX3_of 123 = .ok (.l2i, 1) := by decide +kernel
theorem dX3_of_124 : decode cX3_of 124 = .ok (.ireturn, 1) := by decide +kernel
theorem dX3_of_125 : decode cX3_of 125 = .ok (.aload_n 0, 1) := by decide +kernel
theorem dX3_of_126 : decode cX3_of 126 = .ok (.getfield 25, 3) := by decide +kernel
theorem dX3_of_129 : decode cX3_of 129 = .ok (.bipush 22, 2) := by decide +kernel
theorem dX3_of_131 : decode cX3_of 131 = .ok (.iload_n 1, 1) := by decide +kernel
theorem dX3_of_132 : decode cX3_of 132 = .ok (.iadd, 1) := by decide +kernel
theorem dX3_of_133 : decode cX3_of 133 = .ok (.laload, 1) := by decide +kernel
theorem dX3_of_134 : decode cX3_of 134 = .ok (.l2i, 1) := by decide +kernel
theorem dX3_of_135 : decode cX3_of 135 = .ok (.ireturn, 1) := by decide +kernel
theorem dX3_of_136 : decode cX3_of 136 = .ok (.aload_n 0, 1) := by decide +kernel
theorem dX3_of_137 : decode cX3_of 137 = .ok (.getfield 25, 3) := by decide +kernel
theorem dX3_of_140 : decode cX3_of 140 = .ok (.bipush 26, 2) := by decide +kernel
theorem dX3_of_142 : decode cX3_of 142 = .ok (.iload_n 1, 1) := by decide +kernel
theorem dX3_of_143 : decode cX3_of 143 = .ok (.iadd, 1) := by decide +kernel
theorem dX3_of_144 : decode cX3_of 144 = .ok (.laload, 1) := by decide +kernel
theorem dX3_of_145 : decode cX3_of 145 = .ok (.l2i, 1) := by decide +kernel
theorem dX3_of_146 : decode cX3_of 146 = .ok (.ireturn, 1) := by decide +kernel
theorem dX3_of_147 : decode cX3_of 147 = .ok (.aload_n 0, 1) := by decide +kernel
theorem dX3_of_148 : decode cX3_of 148 = .ok (.getfield 90, 3) := by decide +kernel
theorem dX3_of_151 : decode cX3_of 151 = .ok (.l2i, 1) := by decide +kernel
theorem dX3_of_152 : decode cX3_of 152 = .ok (.ireturn, 1) := by decide +kernel
theorem dX3_of_153 : decode cX3_of 153 = .ok (.aload_n 0, 1) := by decide +kernel
theorem dX3_of_154 : decode cX3_of 154 = .ok (.getfield 94, 3) := by decide +kernel
theorem dX3_of_157 : decode cX3_of 157 = .ok (.l2i, 1) := by decide +kernel
theorem dX3_of_158 : decode cX3_of 158 = .ok (.ireturn, 1) := by decide +kernel
set_option maxRecDepth 20000 in
theorem ggX3_counted_X3_in : GoodIn wsX3_counted wsX3_in := goodIn_r _ [7] (by decide +kernel) (by decide +kernel)
set_option maxRecDepth 20000 in
theorem gX3_counted_X3_in : GoodIn wsX3_counted (va_wsS RX3 76 yX3_in wsX3_in) := goodIn_app (goodIn_of _ (by decide +kernel)) ggX3_counted_X3_in
theorem dX3_counted_0 : decode cX3_counted 0 = .ok (.aload_n 0, 1) := by decide +kernel
theorem dX3_counted_1 : decode cX3_counted 1 = .ok (.iconst 0, 1) := by decide +kernel
theorem dX3_counted_2 : decode cX3_counted 2 = .ok (.putfield 69, 3) := by decide +kernel
theorem dX3_counted_5 : decode cX3_counted 5 = .ok (.iload_n 1, 1) := by decide +kernel
theorem dX3_counted_6 : decode cX3_counted 6 = .ok (.iconst 0, 1) := by decide +kernel
theorem dX3_counted_7 : decode cX3_counted 7 = .ok (.aload_n 0, 1) := by decide +kernel
theorem dX3_counted_8 : decode cX3_counted 8 = .ok (.getfield 101, 3) := by decide +kernel
theorem dX3_counted_11 : decode cX3_counted 11 = .ok (.iconst 1, 1) := by decide +kernel
theorem dX3_counted_12 : decode cX3_counted 12 = .ok (.isub, 1) := by decide +kernel
theorem dX3_counted_13 : decode cX3_counted 13 = .ok (.invokestatic 76, 3) := by decide +kernel
theorem dX3_counted_16 : decode cX3_counted 16 = .ok (.ifCond .eq 16, 3) := by decide +kernel
theorem dX3_counted_19 : decode cX3_counted 19 = .ok (.aload_n 0, 1) := by decide +kernel
theorem dX3_counted_20 : decode cX3_counted 20 = .ok (.getfield 25, 3) := by decide +kernel
theorem dX3_counted_23 : decode cX3_counted 23 = .ok (.bipush 12, 2) := by decide +kernel
theorem dX3_counted_25 : decode cX3_counted 25 = .ok (.iload_n 1, 1) := by decide +kernel
theorem dX3_counted_26 : decode cX3_counted 26 = .ok (.iadd, 1) := by decide +kernel
theorem dX3_counted_27 : decode cX3_counted 27 = .ok (.laload, 1) := by decide +kernel
theorem dX3_counted_28 : decode cX3_counted 28 = .ok (.l2i, 1) := by decide +kernel
theorem dX3_counted_29 : decode cX3_counted 29 = .ok (.goto 4, 3) := by decide +kernel
theorem dX3_counted_32 : decode cX3_counted 32 = .ok (.iconst (-1), 1) := by decide +kernel
theorem dX3_counted_33 : decode cX3_counted 33 = .ok (.ireturn, 1) := by decide +kernel
theorem dX3_event_0 : decode cX3_event 0 = .ok (.aload_n 0, 1) := by decide +kernel
theorem dX3_event_1 : decode cX3_event 1 = .ok (.iconst 0, 1) := by decide +kernel
theorem dX3_event_2 : decode cX3_event 2 = .ok (.putfield 69, 3) := by decide +kernel
theorem dX3_event_5 : decode cX3_event 5 = .ok (.iload_n 1, 1) := by decide +kernel
theorem dX3_event_6 : decode cX3_event 6 = .ok (.ifCond .lt 23, 3) := by decide +kernel
theorem dX3_event_9 : decode cX3_event 9 = .ok (.iload_n 1, 1) := by decide +kernel
theorem dX3_event_10 : decode cX3_event 10 = .ok (.i2l, 1) := by decide +kernel
theorem dX3_event_11 : decode cX3_event 11 = .ok (.aload_n 0, 1) := by decide +kernel
theorem dX3_event_12 : decode cX3_event 12 = .ok (.getfield 25, 3) := by decide +kernel
theorem dX3_event_15 : decode cX3_event 15 = .ok (.bipush 30, 2) := by decide +kernel
theorem dX3_event_17 : decode cX3_event 17 = .ok (.laload, 1) := by decide +kernel
theorem dX3_event_18 : decode cX3_event 18 = .ok (.lcmp, 1) := by decide +kernel
theorem dX3_event_19 : decode cX3_event 19 = .ok (.ifCond .ge 10, 3) := by decide +kernel
theorem dX3_event_22 : decode cX3_event 22 = .ok (.iload_n 1, 1) := by decide +kernel
theorem dX3_event_23 : decode cX3_event 23 = .ok (.sipush 500, 3) := by decide +kernel
theorem dX3_event_26 : decode cX3_event 26 = .ok (.if_icmp .lt 5, 3) := by decide +kernel
theorem dX3_event_29 : decode cX3_event 29 = .ok (.iconst (-1), 1) := by decide +kernel
theorem dX3_event_30 : decode cX3_event 30 = .ok (.ireturn, 1) := by decide +kernel
theorem dX3_event_31 : decode cX3_event 31 = .ok (.iload_n 2, 1) := by decide +kernel
theorem dX3_event_32 : decode cX3_event 32 = .ok (.tableswitch 62 0 3 #[32, 39, 46, 54], 32) := by decide +kernel
theorem dX3_event_64 : decode cX3_event 64 = .ok (.aload_n 0, 1) := by decide +kernel
theorem dX3_event_65 : decode cX3_event 65 = .ok (.getfield 35, 3) := by decide +kernel
theorem dX3_event_68 : decode cX3_event 68 = .ok (.iload_n 1, 1) := by decide +kernel
theorem dX3_event_69 : decode cX3_event 69 = .ok (.iaload, 1) := by decide +kernel
theorem dX3_event_70 : decode cX3_event 70 = .ok (.ireturn, 1) := by decide +kernel
theorem dX3_event_71 : decode cX3_event 71 = .ok (.aload_n 0, 1) := by decide +kernel
theorem dX3_event_72 : decode cX3_event 72 = .ok (.getfield 38, 3) := by decide +kernel
theorem dX3_event_75 : decode cX3_event 75 = .ok (.iload_n 1, 1) := by decide +kernel
theorem dX3_event_76 : decode cX3_event 76 = .ok (.iaload, 1) := by decide +kernel
theorem dX3_event_77 : decode cX3_event 77 = .ok (.ireturn, 1) := by decide +kernel
theorem dX3_event_78 : decode cX3_event 78 = .ok (.aload_n 0, 1) := by decide +kernel
theorem dX3_event_79 : decode cX3_event 79 = .ok (.getfield 41, 3) := by decide +kernel
theorem dX3_event_82 : decode cX3_event 82 = .ok (.iload_n 1, 1) := by decide +kernel
theorem dX3_event_83 : decode cX3_event 83 = .ok (.laload, 1) := by decide +kernel
theorem dX3_event_84 : decode cX3_event 84 = .ok (.l2i, 1) := by decide +kernel
theorem dX3_event_85 : decode cX3_event 85 = .ok (.ireturn, 1) := by decide +kernel
theorem dX3_event_86 : decode cX3_event 86 = .ok (.aload_n 0, 1) := by decide +kernel
theorem dX3_event_87 : decode cX3_event 87 = .ok (.getfield 44, 3) := by decide +kernel
theorem dX3_event_90 : decode cX3_event 90 = .ok (.iload_n 1, 1) := by decide +kernel
theorem dX3_event_91 : decode cX3_event 91 = .ok (.laload, 1) := by decide +kernel
theorem dX3_event_92 : decode cX3_event 92 = .ok (.l2i, 1) := by decide +kernel
theorem dX3_event_93 : decode cX3_event 93 = .ok (.ireturn, 1) := by decide +kernel
theorem dX3_event_94 : decode cX3_event 94 = .ok (.iconst (-1), 1) := by decide +kernel
theorem dX3_event_95 : decode cX3_event 95 = .ok (.ireturn, 1) := by decide +kernel
theorem dX3_areAlike_0 : decode cX3_areAlike 0 = .ok (.iconst 0, 1) := by decide +kernel
theorem dX3_areAlike_1 : decode cX3_areAlike 1 = .ok (.istore_n 3, 1) := by decide +kernel
theorem dX3_areAlike_2 : decode cX3_areAlike 2 = .ok (.iload_n 3, 1) := by decide +kernel
theorem dX3_areAlike_3 : decode cX3_areAlike 3 = .ok (.bipush 20, 2) := by decide +kernel
theorem dX3_areAlike_5 : decode cX3_areAlike 5 = .ok (.if_icmp .ge 37, 3) := by decide +kernel
theorem dX3_areAlike_8 : decode cX3_areAlike 8 = .ok (.aload_n 0, 1) := by decide +kernel
theorem dX3_areAlike_9 : decode cX3_areAlike 9 = .ok (.getfield 51, 3) := by decide +kernel
theorem dX3_areAlike_12 : decode cX3_areAlike 12 = .ok (.bipush 31, 2) := by decide +kernel
theorem dX3_areAlike_14 : decode cX3_areAlike 14 = .ok (.iload_n 1, 1) := by decide +kernel
theorem dX3_areAlike_15 : decode cX3_areAlike 15 = .ok (.imul, 1) := by decide +kernel
theorem dX3_areAlike_16 : decode cX3_areAlike 16 = .ok (.iload_n 3, 1) := by decide +kernel
theorem dX3_areAlike_17 : decode cX3_areAlike 17 = .ok (.iadd, 1) := by decide +kernel
theorem dX3_areAlike_18 : decode cX3_areAlike 18 = .ok (.laload, 1) := by decide +kernel
theorem dX3_areAlike_19 : decode cX3_areAlike 19 = .ok (.aload_n 0, 1) := by decide +kernel
theorem dX3_areAlike_20 : decode cX3_areAlike 20 = .ok (.getfield 51, 3) := by decide +kernel
theorem dX3_areAlike_23 : decode cX3_areAlike 23 = .ok (.bipush 31, 2) := by decide +kernel
theorem dX3_areAlike_25 : decode cX3_areAlike 25 = .ok (.iload_n 2, 1) := by decide +kernel
theorem dX3_areAlike_26 : decode cX3_areAlike 26 = .ok (.imul, 1) := by decide +kernel
theorem dX3_areAlike_27 : decode cX3_areAlike 27 = .ok (.iload_n 3, 1) := by decide +kernel
theorem dX3_areAlike_28 : decode cX3_areAlike 28 = .ok (.iadd, 1) := by decide +kernel
theorem dX3_areAlike_29 : decode cX3_areAlike 29 = .ok (.laload, 1) := by decide +kernel
theorem dX3_areAlike_30 : decode cX3_areAlike 30 = .ok (.lcmp, 1) := by decide +kernel
theorem dX3_areAlike_31 : decode cX3_areAlike 31 = .ok (.ifCond .eq 5, 3) := by decide +kernel
theorem dX3_areAlike_34 : decode cX3_areAlike 34 = .ok (.iconst 0, 1) := by decide +kernel
theorem dX3_areAlike_35 : decode cX3_areAlike 35 = .ok (.ireturn, 1) := by decide +kernel
theorem dX3_areAlike_36 : decode cX3_areAlike 36 = .ok (.iinc 3 1, 3) := by decide +kernel
theorem dX3_areAlike_39 : decode cX3_areAlike 39 = .ok (.goto (-37), 3) := by decide +kernel
theorem dX3_areAlike_42 : decode cX3_areAlike 42 = .ok (.iconst 1, 1) := by decide +kernel
theorem dX3_areAlike_43 : decode cX3_areAlike 43 = .ok (.ireturn, 1) := by decide +kernel
theorem dX3_keep_0 : decode cX3_keep 0 = .ok (.iconst 0, 1) := by decide +kernel
theorem dX3_keep_1 : decode cX3_keep 1 = .ok (.istore_n 2, 1) := by decide +kernel
theorem dX3_keep_2 : decode cX3_keep 2 = .ok (.iload_n 2, 1) := by decide +kernel
theorem dX3_keep_3 : decode cX3_keep 3 = .ok (.bipush 31, 2) := by decide +kernel
theorem dX3_keep_5 : decode cX3_keep 5 = .ok (.if_icmp .ge 26, 3) := by decide +kernel
theorem dX3_keep_8 : decode cX3_keep 8 = .ok (.aload_n 0, 1) := by decide +kernel
theorem dX3_keep_9 : decode cX3_keep 9 = .ok (.getfield 51, 3) := by decide +kernel
theorem dX3_keep_12 : decode cX3_keep 12 = .ok (.bipush 31, 2) := by decide +kernel
theorem dX3_keep_14 : decode cX3_keep 14 = .ok (.iload_n 1, 1) := by decide +kernel
theorem dX3_keep_15 : decode cX3_keep 15 = .ok (.imul, 1) := by decide +kernel
theorem dX3_keep_16 : decode cX3_keep 16 = .ok (.iload_n 2, 1) := by decide +kernel
theorem dX3_keep_17 : decode cX3_keep 17 = .ok (.iadd, 1) := by decide +kernel
theorem dX3_keep_18 : decode cX3_keep 18 = .ok (.aload_n 0, 1) := by decide +kernel
theorem dX3_keep_19 : decode cX3_keep 19 = .ok (.getfield 25, 3) := by decide +kernel
theorem dX3_keep_22 : decode cX3_keep 22 = .ok (.iload_n 2, 1) := by decide +kernel
theorem dX3_keep_23 : decode cX3_keep 23 = .ok (.laload, 1) := by decide +kernel
theorem dX3_keep_24 : decode cX3_keep 24 = .ok (.lastore, 1) := by decide +kernel
theorem dX3_keep_25 : decode cX3_keep 25 = .ok (.iinc 2 1, 3) := by decide +kernel
theorem dX3_keep_28 : decode cX3_keep 28 = .ok (.goto (-26), 3) := by decide +kernel
theorem dX3_keep_31 : decode cX3_keep 31 = .ok (.return_, 1) := by decide +kernel
set_option maxRecDepth 20000 in
theorem ggX3_seek_X3_keep : GoodIn wsX3_seek wsX3_keep := goodIn_r _ [5, 6, 7, 78, 79, 80, 81, 82, 83, 84, 85, 86, 87, 88, 89, 90, 91, 92, 93, 94, 95, 96, 97, 98, 99, 100, 101, 102, 103, 104, 105] (by decide +kernel) (by decide +kernel)
set_option maxRecDepth 20000 in
theorem gX3_seek_X3_keep : GoodIn wsX3_seek (wsV RX3 159 RX3 yX3_keep wsX3_keep) := goodIn_app (goodIn_of _ (by decide +kernel)) ggX3_seek_X3_keep
set_option maxRecDepth 20000 in
theorem ggX3_seek_X3_step : GoodIn wsX3_seek wsX3_step := goodIn_r _ [11, 12, 7, 13, 14, 15, 16, 17, 18, 19, 20, 21, 22, 23, 24, 25, 26, 27, 28, 4, 29, 30, 31, 32, 33, 34, 35, 36, 37, 38, 39, 40, 41, 42, 43, 44, 45, 46, 47, 48, 49, 50, 51, 52, 53, 54, 55, 56, 57, 58, 59, 60, 61, 62, 63, 64, 65, 66, 67, 78, 79, 80, 81, 82, 83, 84, 85, 86, 87, 88, 89, 90, 91, 92, 93, 94, 95, 96, 97, 98, 99, 100, 101, 102, 103, 104, 105] (by decide +kernel) (by decide +kernel)
set_option maxRecDepth 20000 in
theorem gX3_seek_X3_step : GoodIn wsX3_seek (wsV RX3 143 RX3 yX3_step wsX3_step) := goodIn_app (goodIn_of _ (by decide +kernel)) ggX3_seek_X3_step
set_option maxRecDepth 20000 in
theorem ggX3_seek_X3_areAlike : GoodIn wsX3_seek wsX3_areAlike := goodIn_r _ [71, 6, 78, 79, 80, 81, 82, 83, 84, 85, 86, 87, 88, 89, 90, 91, 92, 93, 94, 95, 96, 97, 98, 99, 100, 101, 102, 103, 104, 105] (by decide +kernel) (by decide +kernel)
set_option maxRecDepth 20000 in
theorem gX3_seek_X3_areAlike : GoodIn wsX3_seek (wsV RX3 162 RX3 yX3_areAlike wsX3_areAlike) := goodIn_app (goodIn_of _ (by decide +kernel)) ggX3_seek_X3_areAlike
set_option maxRecDepth 20000 in
theorem ggX3_seek_X3_tell : GoodIn wsX3_seek wsX3_tell := goodIn_r _ [75, 76, 6, 77, 14, 15, 40, 41, 42, 4, 43, 44, 45, 46, 47, 48, 49, 50, 78, 79, 80, 81, 82, 83, 84, 85, 86, 87, 88, 89, 90, 91, 92, 93, 94, 95, 96, 97, 98, 99, 100, 101, 102, 103, 104, 105] (by decide +kernel) (by decide +kernel)
set_option maxRecDepth 20000 in
theorem gX3_seek_X3_tell : GoodIn wsX3_seek (wsV RX3 166 RX3 yX3_tell wsX3_tell) := goodIn_app (goodIn_of _ (by decide +kernel)) ggX3_seek_X3_tell
theorem dX3_seek_0 : decode cX3_seek 0 = .ok (.aload_n 0, 1) := by decide +kernel
theorem dX3_seek_1 : decode cX3_seek 1 = .ok (.iconst 0, 1) := by decide +kernel
theorem dX3_seek_2 : decode cX3_seek 2 = .ok (.invokevirtual 159, 3) := by decide +kernel
theorem dX3_seek_5 : decode cX3_seek 5 = .ok (.iconst 1, 1) := by decide +kernel
theorem dX3_seek_6 : decode cX3_seek 6 = .ok (.istore_n 2, 1) := by decide +kernel
theorem dX3_seek_7 : decode cX3_seek 7 = .ok (.iload_n 2, 1) := by decide +kernel
theorem dX3_seek_8 : decode cX3_seek 8 = .ok (.iload_n 1, 1) := by decide +kernel
theorem dX3_seek_9 : decode cX3_seek 9 = .ok (.if_icmp .gt 59, 3) := by decide +kernel
theorem dX3_seek_12 : decode cX3_seek 12 = .ok (.aload_n 0, 1) := by decide +kernel
theorem dX3_seek_13 : decode cX3_seek 13 = .ok (.invokevirtual 143, 3) := by decide +kernel
theorem dX3_seek_16 : decode cX3_seek 16 = .ok (.ifCond .ne 6, 3) := by decide +kernel
theorem dX3_seek_19 : decode cX3_seek 19 = .ok (.bipush (-3), 2) := by decide +kernel
theorem dX3_seek_21 : decode cX3_seek 21 = .ok (.ireturn, 1) := by decide +kernel
theorem dX3_seek_22 : decode cX3_seek 22 = .ok (.aload_n 0, 1) := by decide +kernel
theorem dX3_seek_23 : decode cX3_seek 23 = .ok (.iload_n 2, 1) := by decide +kernel
theorem dX3_seek_24 : decode cX3_seek 24 = .ok (.invokevirtual 159, 3) := by decide +kernel
theorem dX3_seek_27 : decode cX3_seek 27 = .ok (.iconst 0, 1) := by decide +kernel
theorem dX3_seek_28 : decode cX3_seek 28 = .ok (.istore_n 3, 1) := by decide +kernel
theorem dX3_seek_29 : decode cX3_seek 29 = .ok (.iload_n 3, 1) := by decide +kernel
theorem dX3_seek_30 : decode cX3_seek 30 = .ok (.iload_n 2, 1) := by decide +kernel
theorem dX3_seek_31 : decode cX3_seek 31 = .ok (.if_icmp .ge 31, 3) := by decide +kernel
theorem dX3_seek_34 : decode cX3_seek 34 = .ok (.aload_n 0, 1) := by decide +kernel
theorem dX3_seek_35 : decode cX3_seek 35 = .ok (.iload_n 3, 1) := by decide +kernel
theorem dX3_seek_36 : decode cX3_seek 36 = .ok (.iload_n 2, 1) := by decide +kernel
theorem dX3_seek_37 : decode cX3_seek 37 = .ok (.invokevirtual 162, 3) := by decide +kernel
theorem dX3_seek_40 : decode cX3_seek 40 = .ok (.ifCond .ne 6, 3) := by decide +kernel
theorem dX3_seek_43 : decode cX3_seek 43 = .ok (.goto 13, 3) := by decide +kernel
theorem dX3_seek_46 : decode cX3_seek 46 = .ok (.aload_n 0, 1) := by decide +kernel
theorem dX3_seek_47 : decode cX3_seek 47 = .ok (.iload_n 3, 1) := by decide +kernel
theorem dX3_seek_48 : decode cX3_seek 48 = .ok (.iload_n 2, 1) := by decide +kernel
theorem dX3_seek_49 : decode cX3_seek 49 = .ok (.invokevirtual 166, 3) := by decide +kernel
theorem dX3_seek_52 : decode cX3_seek 52 = .ok (.iload_n 2, 1) := by decide +kernel
theorem dX3_seek_53 : decode cX3_seek 53 = .ok (.iload_n 3, 1) := by decide +kernel
theorem dX3_seek_54 : decode cX3_seek 54 = .ok (.isub, 1) := by decide +kernel
theorem dX3_seek_55 : decode cX3_seek 55 = .ok (.ireturn, 1) := by decide +kernel
theorem dX3_seek_56 : decode cX3_seek 56 = .ok (.iinc 3 1, 3) := by decide +kernel
theorem dX3_seek_59 : decode cX3_seek 59 = .ok (.goto (-30), 3) := by decide +kernel
theorem dX3_seek_62 : decode cX3_seek 62 = .ok (.iinc 2 1, 3) := by decide +kernel
theorem dX3_seek_65 : decode cX3_seek 65 = .ok (.goto (-58), 3) := by decide +kernel
theorem dX3_seek_68 : decode cX3_seek 68 = .ok (.bipush (-2), 2) := by decide +kernel
theorem dX3_seek_70 : decode cX3_seek 70 = .ok (.ireturn, 1) := by decide +kernel
set_option maxRecDepth 20000 in
theorem ggX3_tell_X3_make : GoodIn wsX3_tell wsX3_make := goodIn_r _ [10, 11, 12, 13, 14, 4, 5, 15, 16, 9, 17, 18, 19, 20, 21, 22, 23, 24, 25, 26, 27, 28, 29, 30, 31, 32, 33, 34, 35, 36, 37, 38, 39, 40, 41, 42, 43, 44, 45] (by decide +kernel) (by decide +kernel)
set_option maxRecDepth 20000 in
theorem gX3_tell_X3_make : GoodIn wsX3_tell (wsV RX3 107 RX3 yX3_make wsX3_make) := goodIn_app (goodIn_of _ (by decide +kernel)) ggX3_tell_X3_make
theorem dX3_tell_0 : decode cX3_tell 0 = .ok (.bipush 31, 2) := by decide +kernel
theorem dX3_tell_2 : decode cX3_tell 2 = .ok (.iload_n 1, 1) := by decide +kernel
theorem dX3_tell_3 : decode cX3_tell 3 = .ok (.imul, 1) := by decide +kernel
theorem dX3_tell_4 : decode cX3_tell 4 = .ok (.istore_n 3, 1) := by decide +kernel
theorem dX3_tell_5 : decode cX3_tell 5 = .ok (.bipush 31, 2) := by decide +kernel
theorem dX3_tell_7 : decode cX3_tell 7 = .ok (.iload_n 2, 1) := by decide +kernel
theorem dX3_tell_8 : decode cX3_tell 8 = .ok (.imul, 1) := by decide +kernel
theorem dX3_tell_9 : decode cX3_tell 9 = .ok (.istore 4, 2) := by decide +kernel
theorem dX3_tell_11 : decode cX3_tell 11 = .ok (.aload_n 0, 1) := by decide +kernel
theorem dX3_tell_12 : decode cX3_tell 12 = .ok (.iconst 1, 1) := by decide +kernel
theorem dX3_tell_13 : decode cX3_tell 13 = .ok (.putfield 170, 3) := by decide +kernel
theorem dX3_tell_16 : decode cX3_tell 16 = .ok (.aload_n 0, 1) := by decide +kernel
theorem dX3_tell_17 : decode cX3_tell 17 = .ok (.aload_n 0, 1) := by decide +kernel
theorem dX3_tell_18 : decode cX3_tell 18 = .ok (.getfield 51, 3) := by decide +kernel
theorem dX3_tell_21 : decode cX3_tell 21 = .ok (.iload 4, 2) := by decide +kernel
theorem dX3_tell_23 : decode cX3_tell 23 = .ok (.bipush 20, 2) := by decide +kernel
theorem dX3_tell_25 : decode cX3_tell 25 = .ok (.iadd, 1) := by decide +kernel
theorem dX3_tell_26 : decode cX3_tell 26 = .ok (.laload, 1) := by decide +kernel
theorem dX3_tell_27 : decode cX3_tell 27 = .ok (.aload_n 0, 1) := by decide +kernel
theorem dX3_tell_28 : decode cX3_tell 28 = .ok (.getfield 51, 3) := by decide +kernel
theorem dX3_tell_31 : decode cX3_tell 31 = .ok (.iload_n 3, 1) := by decide +kernel
theorem dX3_tell_32 : decode cX3_tell 32 = .ok (.bipush 20, 2) := by decide +kernel
theorem dX3_tell_34 : decode cX3_tell 34 = .ok (.iadd, 1) := by decide +kernel
theorem dX3_tell_35 : decode cX3_tell 35 = .ok (.iconst 1, 1) := by decide +kernel
theorem dX3_tell_36 : decode cX3_tell 36 = .ok (.iadd, 1) := by decide +kernel
theorem dX3_tell_37 : decode cX3_tell 37 = .ok (.laload, 1) := by decide +kernel
theorem dX3_tell_38 : decode cX3_tell 38 = .ok (.lmul, 1) := by decide +kernel
theorem dX3_tell_39 : decode cX3_tell 39 = .ok (.aload_n 0, 1) := by decide +kernel
theorem dX3_tell_40 : decode cX3_tell 40 = .ok (.getfield 51, 3) := by decide +kernel
theorem dX3_tell_43 : decode cX3_tell 43 = .ok (.iload_n 3, 1) := by decide +kernel
theorem dX3_tell_44 : decode cX3_tell 44 = .ok (.bipush 20, 2) := by decide +kernel
theorem dX3_tell_46 : decode cX3_tell 46 = .ok (.iadd, 1) := by decide +kernel
theorem dX3_tell_47 : decode cX3_tell 47 = .ok (.laload, 1) := by decide +kernel
theorem dX3_tell_48 : decode cX3_tell 48 = .ok (.aload_n 0, 1) := by decide +kernel
theorem dX3_tell_49 : decode cX3_tell 49 = .ok (.getfield 51, 3) := by decide +kernel
theorem dX3_tell_52 : decode cX3_tell 52 = .ok (.iload 4, 2) := by decide +kernel
theorem dX3_tell_54 : decode cX3_tell 54 = .ok (.bipush 20, 2) := by decide +kernel
theorem dX3_tell_56 : decode cX3_tell 56 = .ok (.iadd, 1) := by decide +kernel
theorem dX3_tell_57 : decode cX3_tell 57 = .ok (.iconst 1, 1) := by decide +kernel
theorem dX3_tell_58 : decode cX3_tell 58 = .ok (.iadd, 1) := by decide +kernel
theorem dX3_tell_59 : decode cX3_tell 59 = .ok (.laload, 1) := by decide +kernel
theorem dX3_tell_60 : decode cX3_tell 60 = .ok (.lmul, 1) := by decide +kernel
theorem dX3_tell_61 : decode cX3_tell 61 = .ok (.lsub, 1) := by decide +kernel
theorem dX3_tell_62 : decode cX3_tell 62 = .ok (.aload_n 0, 1) := by decide +kernel
theorem dX3_tell_63 : decode cX3_tell 63 = .ok (.getfield 51, 3) := by decide +kernel
theorem dX3_tell_66 : decode cX3_tell 66 = .ok (.iload_n 3, 1) := by decide +kernel
theorem dX3_tell_67 : decode cX3_tell 67 = .ok (.bipush 20, 2) := by decide +kernel
theorem dX3_tell_69 : decode cX3_tell 69 = .ok (.iadd, 1) := by decide +kernel
theorem dX3_tell_70 : decode cX3_tell 70 = .ok (.iconst 1, 1) := by decide +kernel
theorem dX3_tell_71 : decode cX3_tell 71 = .ok (.iadd, 1) := by decide +kernel
theorem dX3_tell_72 : decode cX3_tell 72 = .ok (.laload, 1) := by decide +kernel
theorem dX3_tell_73 : decode cX3_tell 73 = .ok (.aload_n 0, 1) := by decide +kernel
theorem dX3_tell_74 : decode cX3_tell 74 = .ok (.getfield 51, 3) := by decide +kernel
theorem dX3_tell_77 : decode cX3_tell 77 = .ok (.iload 4, 2) := by decide +kernel
theorem dX3_tell_79 : decode cX3_tell 79 = .ok (.bipush 20, 2) := by decide +kernel
theorem dX3_tell_81 : decode cX3_tell 81 = .ok (.iadd, 1) := by decide +kernel
theorem dX3_tell_82 : decode cX3_tell 82 = .ok (.iconst 1, 1) := by decide +kernel
theorem dX3_tell_83 : decode cX3_tell 83 = .ok (.iadd, 1) := by decide +kernel
theorem dX3_tell_84 : decode cX3_tell 84 = .ok (.laload, 1) := by decide +kernel
theorem dX3_tell_85 : decode cX3_tell 85 = .ok (.lmul, 1) := by decide +kernel
theorem dX3_tell_86 : decode cX3_tell 86 = .ok (.invokevirtual 107, 3) := by decide +kernel
theorem dX3_tell_89 : decode cX3_tell 89 = .ok (.aload_n 0, 1) := by decide +kernel
theorem dX3_tell_90 : decode cX3_tell 90 = .ok (.getfield 54, 3) := by decide +kernel
theorem dX3_tell_93 : decode cX3_tell 93 = .ok (.iconst 0, 1) := by decide +kernel
theorem dX3_tell_94 : decode cX3_tell 94 = .ok (.iload_n 1, 1) := by decide +kernel
theorem dX3_tell_95 : decode cX3_tell 95 = .ok (.i2l, 1) := by decide +kernel
theorem dX3_tell_96 : decode cX3_tell 96 = .ok (.lastore, 1) := by decide +kernel
theorem dX3_tell_97 : decode cX3_tell 97 = .ok (.aload_n 0, 1) := by decide +kernel
theorem dX3_tell_98 : decode cX3_tell 98 = .ok (.getfield 54, 3) := by decide +kernel
theorem dX3_tell_101 : decode cX3_tell 101 = .ok (.iconst 1, 1) := by decide +kernel
theorem dX3_tell_102 : decode cX3_tell 102 = .ok (.iload_n 2, 1) := by decide +kernel
theorem dX3_tell_103 : decode cX3_tell 103 = .ok (.iload_n 1, 1) := by decide +kernel
theorem dX3_tell_104 : decode cX3_tell 104 = .ok (.isub, 1) := by decide +kernel
theorem dX3_tell_105 : decode cX3_tell 105 = .ok (.i2l, 1) := by decide +kernel
theorem dX3_tell_106 : decode cX3_tell 106 = .ok (.lastore, 1) := by decide +kernel
theorem dX3_tell_107 : decode cX3_tell 107 = .ok (.aload_n 0, 1) := by decide +kernel
theorem dX3_tell_108 : decode cX3_tell 108 = .ok (.getfield 54, 3) := by decide +kernel
theorem dX3_tell_111 : decode cX3_tell 111 = .ok (.iconst 2, 1) := by decide +kernel
theorem dX3_tell_112 : decode cX3_tell 112 = .ok (.aload_n 0, 1) := by decide +kernel
theorem dX3_tell_113 : decode cX3_tell 113 = .ok (.getfield 90, 3) := by decide +kernel
theorem dX3_tell_116 : decode cX3_tell 116 = .ok (.lastore, 1) := by decide +kernel
theorem dX3_tell_117 : decode cX3_tell 117 = .ok (.aload_n 0, 1) := by decide +kernel
theorem dX3_tell_118 : decode cX3_tell 118 = .ok (.getfield 54, 3) := by decide +kernel
theorem dX3_tell_121 : decode cX3_tell 121 = .ok (.iconst 3, 1) := by decide +kernel
theorem dX3_tell_122 : decode cX3_tell 122 = .ok (.aload_n 0, 1) := by decide +kernel
theorem dX3_tell_123 : decode cX3_tell 123 = .ok (.getfield 94, 3) := by decide +kernel
theorem dX3_tell_126 : decode cX3_tell 126 = .ok (.lastore, 1) := by decide +kernel
theorem dX3_tell_127 : decode cX3_tell 127 = .ok (.iconst 0, 1) := by decide +kernel
theorem dX3_tell_128 : decode cX3_tell 128 = .ok (.istore 5, 2) := by decide +kernel
theorem dX3_tell_130 : decode cX3_tell 130 = .ok (.iload 5, 2) := by decide +kernel
theorem dX3_tell_132 : decode cX3_tell 132 = .ok (.iconst 4, 1) := by decide +kernel
theorem dX3_tell_133 : decode cX3_tell 133 = .ok (.if_icmp .ge 44, 3) := by decide +kernel
theorem dX3_tell_136 : decode cX3_tell 136 = .ok (.aload_n 0, 1) := by decide +kernel
theorem dX3_tell_137 : decode cX3_tell 137 = .ok (.getfield 54, 3) := by decide +kernel
theorem dX3_tell_140 : decode cX3_tell 140 = .ok (.iconst 4, 1) := by decide +kernel
theorem dX3_tell_141 : decode cX3_tell 141 = .ok (.iload 5, 2) := by decide +kernel
