theorem dX0_init_0 : decode cX0_init 0 = .ok (.aload_n 0, 1) := by decide +kernel
theorem dX0_init_1 : decode cX0_init 1 = .ok (.invokespecial 3, 3) := by decide +kernel
theorem dX0_init_4 : decode cX0_init 4 = .ok (.aload_n 0, 1) := by decide +kernel
theorem dX0_init_5 : decode cX0_init 5 = .ok (.iconst 0, 1) := by decide +kernel
theorem dX0_init_6 : decode cX0_init 6 = .ok (.putfield 9, 3) := by decide +kernel
theorem dX0_init_9 : decode cX0_init 9 = .ok (.aload_n 0, 1) := by decide +kernel
theorem dX0_init_10 : decode cX0_init 10 = .ok (.iconst 4, 1) := by decide +kernel
theorem dX0_init_11 : decode cX0_init 11 = .ok (.newarray .int, 2) := by decide +kernel
theorem dX0_init_13 : decode cX0_init 13 = .ok (.putfield 15, 3) := by decide +kernel
theorem dX0_init_16 : decode cX0_init 16 = .ok (.aload_n 0, 1) := by decide +kernel
theorem dX0_init_17 : decode cX0_init 17 = .ok (.iconst 4, 1) := by decide +kernel
theorem dX0_init_18 : decode cX0_init 18 = .ok (.newarray .int, 2) := by decide +kernel
theorem dX0_init_20 : decode cX0_init 20 = .ok (.putfield 19, 3) := by decide +kernel
theorem dX0_init_23 : decode cX0_init 23 = .ok (.aload_n 0, 1) := by decide +kernel
theorem dX0_init_24 : decode cX0_init 24 = .ok (.iconst 4, 1) := by decide +kernel
theorem dX0_init_25 : decode cX0_init 25 = .ok (.newarray .int, 2) := by decide +kernel
theorem dX0_init_27 : decode cX0_init 27 = .ok (.putfield 22, 3) := by decide +kernel
theorem dX0_init_30 : decode cX0_init 30 = .ok (.aload_n 0, 1) := by decide +kernel
theorem dX0_init_31 : decode cX0_init 31 = .ok (.iconst 4, 1) := by decide +kernel
theorem dX0_init_32 : decode cX0_init 32 = .ok (.newarray .int, 2) := by decide +kernel
theorem dX0_init_34 : decode cX0_init 34 = .ok (.putfield 25, 3) := by decide +kernel
theorem dX0_init_37 : decode cX0_init 37 = .ok (.aload_n 0, 1) := by decide +kernel
theorem dX0_init_38 : decode cX0_init 38 = .ok (.iconst 0, 1) := by decide +kernel
theorem dX0_init_39 : decode cX0_init 39 = .ok (.putfield 28, 3) := by decide +kernel
theorem dX0_init_42 : decode cX0_init 42 = .ok (.aload_n 0, 1) := by decide +kernel
theorem dX0_init_43 : decode cX0_init 43 = .ok (.bipush 8, 2) := by decide +kernel
theorem dX0_init_45 : decode cX0_init 45 = .ok (.newarray .int, 2) := by decide +kernel
theorem dX0_init_47 : decode cX0_init 47 = .ok (.putfield 31, 3) := by decide +kernel
theorem dX0_init_50 : decode cX0_init 50 = .ok (.aload_n 0, 1) := by decide +kernel
theorem dX0_init_51 : decode cX0_init 51 = .ok (.bipush 8, 2) := by decide +kernel
theorem dX0_init_53 : decode cX0_init 53 = .ok (.newarray .int, 2) := by decide +kernel
theorem dX0_init_55 : decode cX0_init 55 = .ok (.putfield 34, 3) := by decide +kernel
theorem dX0_init_58 : decode cX0_init 58 = .ok (.aload_n 0, 1) := by decide +kernel
theorem dX0_init_59 : decode cX0_init 59 = .ok (.bipush 8, 2) := by decide +kernel
theorem dX0_init_61 : decode cX0_init 61 = .ok (.newarray .int, 2) := by decide +kernel
theorem dX0_init_63 : decode cX0_init 63 = .ok (.putfield 37, 3) := by decide +kernel
theorem dX0_init_66 : decode cX0_init 66 = .ok (.aload_n 0, 1) := by decide +kernel
theorem dX0_init_67 : decode cX0_init 67 = .ok (.bipush 8, 2) := by decide +kernel
theorem dX0_init_69 : decode cX0_init 69 = .ok (.newarray .int, 2) := by decide +kernel
theorem dX0_init_71 : decode cX0_init 71 = .ok (.putfield 40, 3) := by decide +kernel
theorem dX0_init_74 : decode cX0_init 74 = .ok (.aload_n 0, 1) := by decide +kernel
theorem dX0_init_75 : decode cX0_init 75 = .ok (.bipush 8, 2) := by decide +kernel
theorem dX0_init_77 : decode cX0_init 77 = .ok (.newarray .int, 2) := by decide +kernel
theorem dX0_init_79 : decode cX0_init 79 = .ok (.putfield 43, 3) := by decide +kernel
theorem dX0_init_82 : decode cX0_init 82 = .ok (.aload_n 0, 1) := by decide +kernel
theorem dX0_init_83 : decode cX0_init 83 = .ok (.bipush 8, 2) := by decide +kernel
theorem dX0_init_85 : decode cX0_init 85 = .ok (.newarray .int, 2) := by decide +kernel
theorem dX0_init_87 : decode cX0_init 87 = .ok (.putfield 46, 3) := by decide +kernel
theorem dX0_init_90 : decode cX0_init 90 = .ok (.return_, 1) := by decide +kernel
theorem dX0_ratesOf_0 : decode cX0_ratesOf 0 = .ok (.iload_n 1, 1) := by decide +kernel
theorem dX0_ratesOf_1 : decode cX0_ratesOf 1 = .ok (.ifCond .ne 10, 3) := by decide +kernel
theorem dX0_ratesOf_4 : decode cX0_ratesOf 4 = .ok (.aload_n 0, 1) := by decide +kernel
theorem dX0_ratesOf_5 : decode cX0_ratesOf 5 = .ok (.getfield 22, 3) := by decide +kernel
theorem dX0_ratesOf_8 : decode cX0_ratesOf 8 = .ok (.goto 7, 3) := by decide +kernel
theorem dX0_ratesOf_11 : decode cX0_ratesOf 11 = .ok (.aload_n 0, 1) := by decide +kernel
theorem dX0_ratesOf_12 : decode cX0_ratesOf 12 = .ok (.getfield 25, 3) := by decide +kernel
theorem dX0_ratesOf_15 : decode cX0_ratesOf 15 = .ok (.areturn, 1) := by decide +kernel
theorem dX0_span_0 : decode cX0_span 0 = .ok (.aload_n 0, 1) := by decide +kernel
theorem dX0_span_1 : decode cX0_span 1 = .ok (.getfield 19, 3) := by decide +kernel
theorem dX0_span_4 : decode cX0_span 4 = .ok (.iload_n 1, 1) := by decide +kernel
theorem dX0_span_5 : decode cX0_span 5 = .ok (.iaload, 1) := by decide +kernel
theorem dX0_span_6 : decode cX0_span 6 = .ok (.aload_n 0, 1) := by decide +kernel
theorem dX0_span_7 : decode cX0_span 7 = .ok (.getfield 15, 3) := by decide +kernel
theorem dX0_span_10 : decode cX0_span 10 = .ok (.iload_n 1, 1) := by decide +kernel
theorem dX0_span_11 : decode cX0_span 11 = .ok (.iaload, 1) := by decide +kernel
theorem dX0_span_12 : decode cX0_span 12 = .ok (.isub, 1) := by decide +kernel
theorem dX0_span_13 : decode cX0_span 13 = .ok (.ireturn, 1) := by decide +kernel
theorem dX1_init_0 : decode cX1_init 0 = .ok (.aload_n 0, 1) := by decide +kernel
theorem dX1_init_1 : decode cX1_init 1 = .ok (.invokespecial 3, 3) := by decide +kernel
theorem dX1_init_4 : decode cX1_init 4 = .ok (.aload_n 0, 1) := by decide +kernel
theorem dX1_init_5 : decode cX1_init 5 = .ok (.lconst 0, 1) := by decide +kernel
theorem dX1_init_6 : decode cX1_init 6 = .ok (.putfield 9, 3) := by decide +kernel
theorem dX1_init_9 : decode cX1_init 9 = .ok (.aload_n 0, 1) := by decide +kernel
theorem dX1_init_10 : decode cX1_init 10 = .ok (.lconst 1, 1) := by decide +kernel
theorem dX1_init_11 : decode cX1_init 11 = .ok (.putfield 15, 3) := by decide +kernel
theorem dX1_init_14 : decode cX1_init 14 = .ok (.aload_n 0, 1) := by decide +kernel
theorem dX1_init_15 : decode cX1_init 15 = .ok (.iconst 4, 1) := by decide +kernel
theorem dX1_init_16 : decode cX1_init 16 = .ok (.newarray .long, 2) := by decide +kernel
theorem dX1_init_18 : decode cX1_init 18 = .ok (.putfield 18, 3) := by decide +kernel
theorem dX1_init_21 : decode cX1_init 21 = .ok (.aload_n 0, 1) := by decide +kernel
theorem dX1_init_22 : decode cX1_init 22 = .ok (.iconst 4, 1) := by decide +kernel
theorem dX1_init_23 : decode cX1_init 23 = .ok (.newarray .long, 2) := by decide +kernel
theorem dX1_init_25 : decode cX1_init 25 = .ok (.putfield 22, 3) := by decide +kernel
theorem dX1_init_28 : decode cX1_init 28 = .ok (.aload_n 0, 1) := by decide +kernel
theorem dX1_init_29 : decode cX1_init 29 = .ok (.iconst 4, 1) := by decide +kernel
theorem dX1_init_30 : decode cX1_init 30 = .ok (.newarray .boolean, 2) := by decide +kernel
theorem dX1_init_32 : decode cX1_init 32 = .ok (.putfield 25, 3) := by decide +kernel
theorem dX1_init_35 : decode cX1_init 35 = .ok (.aload_n 0, 1) := by decide +kernel
theorem dX1_init_36 : decode cX1_init 36 = .ok (.bipush 8, 2) := by decide +kernel
theorem dX1_init_38 : decode cX1_init 38 = .ok (.newarray .int, 2) := by decide +kernel
theorem dX1_init_40 : decode cX1_init 40 = .ok (.putfield 29, 3) := by decide +kernel
theorem dX1_init_43 : decode cX1_init 43 = .ok (.aload_n 0, 1) := by decide +kernel
theorem dX1_init_44 : decode cX1_init 44 = .ok (.iconst 0, 1) := by decide +kernel
theorem dX1_init_45 : decode cX1_init 45 = .ok (.putfield 33, 3) := by decide +kernel
theorem dX1_init_48 : decode cX1_init 48 = .ok (.aload_n 0, 1) := by decide +kernel
theorem dX1_init_49 : decode cX1_init 49 = .ok (.iconst 0, 1) := by decide +kernel
theorem dX1_init_50 : decode cX1_init 50 = .ok (.putfield 37, 3) := by decide +kernel
theorem dX1_init_53 : decode cX1_init 53 = .ok (.aload_n 0, 1) := by decide +kernel
theorem dX1_init_54 : decode cX1_init 54 = .ok (.lconst 0, 1) := by decide +kernel
theorem dX1_init_55 : decode cX1_init 55 = .ok (.putfield 40, 3) := by decide +kernel
theorem dX1_init_58 : decode cX1_init 58 = .ok (.aload_n 0, 1) := by decide +kernel
theorem dX1_init_59 : decode cX1_init 59 = .ok (.lconst 1, 1) := by decide +kernel
theorem dX1_init_60 : decode cX1_init 60 = .ok (.putfield 43, 3) := by decide +kernel
theorem dX1_init_63 : decode cX1_init 63 = .ok (.return_, 1) := by decide +kernel
theorem dX1_restart_0 : decode cX1_restart 0 = .ok (.aload_n 0, 1) := by decide +kernel
theorem dX1_restart_1 : decode cX1_restart 1 = .ok (.lconst 0, 1) := by decide +kernel
theorem dX1_restart_2 : decode cX1_restart 2 = .ok (.putfield 9, 3) := by decide +kernel
theorem dX1_restart_5 : decode cX1_restart 5 = .ok (.aload_n 0, 1) := by decide +kernel
theorem dX1_restart_6 : decode cX1_restart 6 = .ok (.lconst 1, 1) := by decide +kernel
theorem dX1_restart_7 : decode cX1_restart 7 = .ok (.putfield 15, 3) := by decide +kernel
theorem dX1_restart_10 : decode cX1_restart 10 = .ok (.iconst 0, 1) := by decide +kernel
theorem dX1_restart_11 : decode cX1_restart 11 = .ok (.istore_n 2, 1) := by decide +kernel
theorem dX1_restart_12 : decode cX1_restart 12 = .ok (.iload_n 2, 1) := by decide +kernel
theorem dX1_restart_13 : decode cX1_restart 13 = .ok (.iconst 4, 1) := by decide +kernel
theorem dX1_restart_14 : decode cX1_restart 14 = .ok (.if_icmp .ge 36, 3) := by decide +kernel
theorem dX1_restart_17 : decode cX1_restart 17 = .ok (.aload_n 0, 1) := by decide +kernel
theorem dX1_restart_18 : decode cX1_restart 18 = .ok (.getfield 18, 3) := by decide +kernel
theorem dX1_restart_21 : decode cX1_restart 21 = .ok (.iload_n 2, 1) := by decide +kernel
theorem dX1_restart_22 : decode cX1_restart 22 = .ok (.aload_n 1, 1) := by decide +kernel
theorem dX1_restart_23 : decode cX1_restart 23 = .ok (.getfield 46, 3) := by decide +kernel
theorem dX1_restart_26 : decode cX1_restart 26 = .ok (.iload_n 2, 1) := by decide +kernel
theorem dX1_restart_27 : decode cX1_restart 27 = .ok (.iaload, 1) := by decide +kernel
theorem dX1_restart_28 : decode cX1_restart 28 = .ok (.i2l, 1) := by decide +kernel
theorem dX1_restart_29 : decode cX1_restart 29 = .ok (.lastore, 1) := by decide +kernel
theorem dX1_restart_30 : decode cX1_restart 30 = .ok (.aload_n 0, 1) := by decide +kernel
theorem dX1_restart_31 : decode cX1_restart 31 = .ok (.getfield 22, 3) := by decide +kernel
theorem dX1_restart_34 : decode cX1_restart 34 = .ok (.iload_n 2, 1) := by decide +kernel
theorem dX1_restart_35 : decode cX1_restart 35 = .ok (.lconst 1, 1) := by decide +kernel
theorem dX1_restart_36 : decode cX1_restart 36 = .ok (.lastore, 1) := by decide +kernel
theorem dX1_restart_37 : decode cX1_restart 37 = .ok (.aload_n 0, 1) := by decide +kernel
theorem dX1_restart_38 : decode cX1_restart 38 = .ok (.getfield 25, 3) := by decide +kernel
theorem dX1_restart_41 : decode cX1_restart 41 = .ok (.iload_n 2, 1) := by decide +kernel
theorem dX1_restart_42 : decode cX1_restart 42 = .ok (.iconst 1, 1) := by decide +kernel
theorem dX1_restart_43 : decode cX1_restart 43 = .ok (.bastore, 1) := by decide +kernel
theorem dX1_restart_44 : decode cX1_restart 44 = .ok (.iinc 2 1, 3) := by decide +kernel
theorem dX1_restart_47 : decode cX1_restart 47 = .ok (.goto (-35), 3) := by decide +kernel
theorem dX1_restart_50 : decode cX1_restart 50 = .ok (.iconst 0, 1) := by decide +kernel
theorem dX1_restart_51 : decode cX1_restart 51 = .ok (.istore_n 2, 1) := by decide +kernel
theorem dX1_restart_52 : decode cX1_restart 52 = .ok (.iload_n 2, 1) := by decide +kernel
theorem dX1_restart_53 : decode cX1_restart 53 = .ok (.bipush 8, 2) := by decide +kernel
theorem dX1_restart_55 : decode cX1_restart 55 = .ok (.if_icmp .ge 16, 3) := by decide +kernel
theorem dX1_restart_58 : decode cX1_restart 58 = .ok (.aload_n 0, 1) := by decide +kernel
theorem dX1_restart_59 : decode cX1_restart 59 = .ok (.getfield 29, 3) := by decide +kernel
theorem dX1_restart_62 : decode cX1_restart 62 = .ok (.iload_n 2, 1) := by decide +kernel
theorem dX1_restart_63 : decode cX1_restart 63 = .ok (.iconst 0, 1) := by decide +kernel
theorem dX1_restart_64 : decode cX1_restart 64 = .ok (.iastore, 1) := by decide +kernel
theorem dX1_restart_65 : decode cX1_restart 65 = .ok (.iinc 2 1, 3) := by decide +kernel
theorem dX1_restart_68 : decode cX1_restart 68 = .ok (.goto (-16), 3) := by decide +kernel
theorem dX1_restart_71 : decode cX1_restart 71 = .ok (.return_, 1) := by decide +kernel
theorem dX1_copyFrom_0 : decode cX1_copyFrom 0 = .ok (.aload_n 0, 1) := by decide +kernel
theorem dX1_copyFrom_1 : decode cX1_copyFrom 1 = .ok (.aload_n 1, 1) := by decide +kernel
theorem dX1_copyFrom_2 : decode cX1_copyFrom 2 = .ok (.getfield 9, 3) := by decide +kernel
theorem dX1_copyFrom_5 : decode cX1_copyFrom 5 = .ok (.putfield 9, 3) := by decide +kernel
theorem dX1_copyFrom_8 : decode cX1_copyFrom 8 = .ok (.aload_n 0, 1) := by decide +kernel
theorem dX1_copyFrom_9 : decode cX1_copyFrom 9 = .ok (.aload_n 1, 1) := by decide +kernel
theorem dX1_copyFrom_10 : decode cX1_copyFrom 10 = .ok (.getfield 15, 3) := by decide +kernel
theorem dX1_copyFrom_13 : decode cX1_copyFrom 13 = .ok (.putfield 15, 3) := by decide +kernel
theorem dX1_copyFrom_16 : decode cX1_copyFrom 16 = .ok (.iconst 0, 1) := by decide +kernel
theorem dX1_copyFrom_17 : decode cX1_copyFrom 17 = .ok (.istore_n 2, 1) := by decide +kernel
theorem dX1_copyFrom_18 : decode cX1_copyFrom 18 = .ok (.iload_n 2, 1) := by decide +kernel
theorem dX1_copyFrom_19 : decode cX1_copyFrom 19 = .ok (.iconst 4, 1) := by decide +kernel
theorem dX1_copyFrom_20 : decode cX1_copyFrom 20 = .ok (.if_icmp .ge 45, 3) := by decide +kernel
theorem dX1_copyFrom_23 : decode cX1_copyFrom 23 = .ok (.aload_n 0, 1) := by decide +kernel
theorem dX1_copyFrom_24 : decode cX1_copyFrom 24 = .ok (.getfield 18, 3) := by decide +kernel
theorem dX1_copyFrom_27 : decode cX1_copyFrom 27 = .ok (.iload_n 2, 1) := by decide +kernel
theorem dX1_copyFrom_28 : decode cX1_copyFrom 28 = .ok (.aload_n 1, 1) := by decide +kernel
theorem dX1_copyFrom_29 : decode cX1_copyFrom 29 = .ok (.getfield 18, 3) := by decide +kernel
theorem dX1_copyFrom_32 : decode cX1_copyFrom 32 = .ok (.iload_n 2, 1) := by decide +kernel
theorem dX1_copyFrom_33 : decode cX1_copyFrom 33 = .ok (.laload, 1) := by decide +kernel
theorem dX1_copyFrom_34 : decode cX1_copyFrom 34 = .ok (.lastore, 1) := by decide +kernel
theorem dX1_copyFrom_35 : decode cX1_copyFrom 35 = .ok (.aload_n 0, 1) := by decide +kernel
theorem dX1_copyFrom_36 : decode cX1_copyFrom 36 = .ok (.getfield 22, 3) := by decide +kernel
theorem dX1_copyFrom_39 : decode cX1_copyFrom 39 = .ok (.iload_n 2, 1) := by decide +kernel
theorem dX1_copyFrom_40 : decode cX1_copyFrom 40 = .ok (.aload_n 1, 1) := by decide +kernel
theorem dX1_copyFrom_41 : decode cX1_copyFrom 41 = .ok (.getfield 22, 3) := by decide +kernel
theorem dX1_copyFrom_44 : decode cX1_copyFrom 44 = .ok (.iload_n 2, 1) := by decide +kernel
theorem dX1_copyFrom_45 : decode cX1_copyFrom 45 = .ok (.laload, 1) := by decide +kernel
theorem dX1_copyFrom_46 : decode cX1_copyFrom 46 = .ok (.lastore, 1) := by decide +kernel
theorem dX1_copyFrom_47 : decode cX1_copyFrom 47 = .ok (.aload_n 0, 1) := by decide +kernel
theorem dX1_copyFrom_48 : decode cX1_copyFrom 48 = .ok (.getfield 25, 3) := by decide +kernel
theorem dX1_copyFrom_51 : decode cX1_copyFrom 51 = .ok (.iload_n 2, 1) := by decide +kernel
theorem dX1_copyFrom_52 : decode cX1_copyFrom 52 = .ok (.aload_n 1, 1) := by decide +kernel
theorem dX1_copyFrom_53 : decode cX1_copyFrom 53 = .ok (.getfield 25, 3) := by decide +kernel
theorem dX1_copyFrom_56 : decode cX1_copyFrom 56 = .ok (.iload_n 2, 1) := by decide +kernel
theorem dX1_copyFrom_57 : decode cX1_copyFrom 57 = .ok (.baload, 1) := by decide +kernel
theorem dX1_copyFrom_58 : decode cX1_copyFrom 58 = .ok (.bastore, 1) := by decide +kernel
theorem dX1_copyFrom_59 : decode cX1_copyFrom 59 = .ok (.iinc 2 1, 3) := by decide +kernel
theorem dX1_copyFrom_62 : decode cX1_copyFrom 62 = .ok (.goto (-44), 3) := by decide +kernel
theorem dX1_copyFrom_65 : decode cX1_copyFrom 65 = .ok (.iconst 0, 1) := by decide +kernel
theorem dX1_copyFrom_66 : decode cX1_copyFrom 66 = .ok (.istore_n 2, 1) := by decide +kernel
theorem dX1_copyFrom_67 : decode cX1_copyFrom 67 = .ok (.iload_n 2, 1) := by decide +kernel
theorem dX1_copyFrom_68 : decode cX1_copyFrom 68 = .ok (.bipush 8, 2) := by decide +kernel
theorem dX1_copyFrom_70 : decode cX1_copyFrom 70 = .ok (.if_icmp .ge 21, 3) := by decide +kernel
theorem dX1_copyFrom_73 : decode cX1_copyFrom 73 = .ok (.aload_n 0, 1) := by decide +kernel
theorem dX1_copyFrom_74 : decode cX1_copyFrom 74 = .ok (.getfield 29, 3) := by decide +kernel
theorem dX1_copyFrom_77 : decode cX1_copyFrom 77 = .ok (.iload_n 2, 1) := by decide +kernel
theorem dX1_copyFrom_78 : decode cX1_copyFrom 78 = .ok (.aload_n 1, 1) := by decide +kernel
theorem dX1_copyFrom_79 : decode cX1_copyFrom 79 = .ok (.getfield 29, 3) := by decide +kernel
theorem dX1_copyFrom_82 : decode cX1_copyFrom 82 = .ok (.iload_n 2, 1) := by decide +kernel
theorem dX1_copyFrom_83 : decode cX1_copyFrom 83 = .ok (.iaload, 1) := by decide +kernel
theorem dX1_copyFrom_84 : decode cX1_copyFrom 84 = .ok (.iastore, 1) := by decide +kernel
theorem dX1_copyFrom_85 : decode cX1_copyFrom 85 = .ok (.iinc 2 1, 3) := by decide +kernel
theorem dX1_copyFrom_88 : decode cX1_copyFrom 88 = .ok (.goto (-21), 3) := by decide +kernel
theorem dX1_copyFrom_91 : decode cX1_copyFrom 91 = .ok (.return_, 1) := by decide +kernel
set_option maxRecDepth 20000 in
theorem ggX1_advance_X1_chooseTurning : GoodIn wsX1_advance wsX1_chooseTurning := goodIn_r _ [9, 1, 2, 10, 11, 12, 13, 14, 15, 16, 17, 3, 56, 57, 58, 59, 60, 61, 62, 63, 64, 65, 66, 67, 68, 69, 70, 71, 72, 73, 74, 75, 76, 77] (by decide +kernel) (by decide +kernel)
set_option maxRecDepth 20000 in
theorem gX1_advance_X1_chooseTurning : GoodIn wsX1_advance (wsV RX1 54 RX1 yX1_chooseTurning wsX1_chooseTurning) := goodIn_app (goodIn_of _ (by decide +kernel)) ggX1_advance_X1_chooseTurning
set_option maxRecDepth 20000 in
theorem ggX1_advance_X1_letTimePass : GoodIn wsX1_advance wsX1_letTimePass := goodIn_r _ [21, 22, 16, 17, 23, 1, 2, 14, 15, 12, 11, 24, 25, 26, 68, 69, 70, 71, 72, 73, 74, 75, 76, 77, 56, 57, 58, 59, 60, 61, 62, 63, 64, 65, 66, 67] (by decide +kernel) (by decide +kernel)
set_option maxRecDepth 20000 in
theorem gX1_advance_X1_letTimePass : GoodIn wsX1_advance (wsV RX1 58 RX1 yX1_letTimePass wsX1_letTimePass) := goodIn_app (goodIn_of _ (by decide +kernel)) ggX1_advance_X1_letTimePass
set_option maxRecDepth 20000 in
theorem ggX1_advance_X1_passOn : GoodIn wsX1_advance wsX1_passOn := goodIn_r _ [30, 31, 32, 3, 33, 4, 34, 35, 36, 37, 38, 8, 39, 40, 41, 12, 42, 11, 2, 43, 44, 45, 46, 10, 13, 56, 57, 58, 59, 60, 61, 62, 63, 64, 65, 66, 67, 68, 69, 70, 71, 72, 73, 74, 75, 76, 77] (by decide +kernel) (by decide +kernel)
set_option maxRecDepth 20000 in
theorem gX1_advance_X1_passOn : GoodIn wsX1_advance (wsV RX1 61 RX1 yX1_passOn wsX1_passOn) := goodIn_app (goodIn_of _ (by decide +kernel)) ggX1_advance_X1_passOn
set_option maxRecDepth 20000 in
theorem ggX1_advance_X1_isSpent : GoodIn wsX1_advance wsX1_isSpent := goodIn_r _ [50, 22, 23, 1, 12, 11, 51, 52, 8, 53, 54, 55, 68, 69, 70, 71, 72, 73, 74, 75, 76, 77, 56, 57, 58, 59, 60, 61, 62, 63, 64, 65, 66, 67] (by decide +kernel) (by decide +kernel)
set_option maxRecDepth 20000 in
theorem gX1_advance_X1_isSpent : GoodIn wsX1_advance (wsV RX1 64 RX1 yX1_isSpent wsX1_isSpent) := goodIn_app (goodIn_of _ (by decide +kernel)) ggX1_advance_X1_isSpent
theorem dX1_advance_0 : decode cX1_advance 0 = .ok (.aload_n 1, 1) := by decide +kernel
theorem dX1_advance_1 : decode cX1_advance 1 = .ok (.getfield 51, 3) := by decide +kernel
theorem dX1_advance_4 : decode cX1_advance 4 = .ok (.ifCond .ne 5, 3) := by decide +kernel
theorem dX1_advance_7 : decode cX1_advance 7 = .ok (.iconst 0, 1) := by decide +kernel
theorem dX1_advance_8 : decode cX1_advance 8 = .ok (.ireturn, 1) := by decide +kernel
theorem dX1_advance_9 : decode cX1_advance 9 = .ok (.aload_n 0, 1) := by decide +kernel
theorem dX1_advance_10 : decode cX1_advance 10 = .ok (.aload_n 1, 1) := by decide +kernel
theorem dX1_advance_11 : decode cX1_advance 11 = .ok (.invokevirtual 54, 3) := by decide +kernel
theorem dX1_advance_14 : decode cX1_advance 14 = .ok (.aload_n 0, 1) := by decide +kernel
theorem dX1_advance_15 : decode cX1_advance 15 = .ok (.aload_n 1, 1) := by decide +kernel
theorem dX1_advance_16 : decode cX1_advance 16 = .ok (.invokevirtual 58, 3) := by decide +kernel
theorem dX1_advance_19 : decode cX1_advance 19 = .ok (.aload_n 0, 1) := by decide +kernel
theorem dX1_advance_20 : decode cX1_advance 20 = .ok (.aload_n 0, 1) := by decide +kernel
theorem dX1_advance_21 : decode cX1_advance 21 = .ok (.getfield 25, 3) := by decide +kernel
theorem dX1_advance_24 : decode cX1_advance 24 = .ok (.aload_n 0, 1) := by decide +kernel
theorem dX1_advance_25 : decode cX1_advance 25 = .ok (.getfield 33, 3) := by decide +kernel
theorem dX1_advance_28 : decode cX1_advance 28 = .ok (.baload, 1) := by decide +kernel
theorem dX1_advance_29 : decode cX1_advance 29 = .ok (.ifCond .eq 7, 3) := by decide +kernel
theorem dX1_advance_32 : decode cX1_advance 32 = .ok (.iconst 0, 1) := by decide +kernel
theorem dX1_advance_33 : decode cX1_advance 33 = .ok (.goto 4, 3) := by decide +kernel
theorem dX1_advance_36 : decode cX1_advance 36 = .ok (.iconst 1, 1) := by decide +kernel
theorem dX1_advance_37 : decode cX1_advance 37 = .ok (.putfield 37, 3) := by decide +kernel
theorem dX1_advance_40 : decode cX1_advance 40 = .ok (.aload_n 0, 1) := by decide +kernel
theorem dX1_advance_41 : decode cX1_advance 41 = .ok (.getfield 25, 3) := by decide +kernel
theorem dX1_advance_44 : decode cX1_advance 44 = .ok (.aload_n 0, 1) := by decide +kernel
theorem dX1_advance_45 : decode cX1_advance 45 = .ok (.getfield 33, 3) := by decide +kernel
theorem dX1_advance_48 : decode cX1_advance 48 = .ok (.aload_n 0, 1) := by decide +kernel
theorem dX1_advance_49 : decode cX1_advance 49 = .ok (.getfield 37, 3) := by decide +kernel
theorem dX1_advance_52 : decode cX1_advance 52 = .ok (.iconst 1, 1) := by decide +kernel
theorem dX1_advance_53 : decode cX1_advance 53 = .ok (.if_icmp .ne 7, 3) := by decide +kernel
theorem dX1_advance_56 : decode cX1_advance 56 = .ok (.iconst 1, 1) := by decide +kernel
theorem dX1_advance_57 : decode cX1_advance 57 = .ok (.goto 4, 3) := by decide +kernel
theorem dX1_advance_60 : decode cX1_advance 60 = .ok (.iconst 0, 1) := by decide +kernel
theorem dX1_advance_61 : decode cX1_advance 61 = .ok (.bastore, 1) := by decide +kernel
theorem dX1_advance_62 : decode cX1_advance 62 = .ok (.aload_n 0, 1) := by decide +kernel
theorem dX1_advance_63 : decode cX1_advance 63 = .ok (.aload_n 1, 1) := by decide +kernel
theorem dX1_advance_64 : decode cX1_advance 64 = .ok (.invokevirtual 61, 3) := by decide +kernel
theorem dX1_advance_67 : decode cX1_advance 67 = .ok (.aload_n 0, 1) := by decide +kernel
theorem dX1_advance_68 : decode cX1_advance 68 = .ok (.aload_n 1, 1) := by decide +kernel
theorem dX1_advance_69 : decode cX1_advance 69 = .ok (.invokevirtual 64, 3) := by decide +kernel
theorem dX1_advance_72 : decode cX1_advance 72 = .ok (.ifCond .ne 7, 3) := by decide +kernel
theorem dX1_advance_75 : decode cX1_advance 75 = .ok (.iconst 1, 1) := by decide +kernel
theorem dX1_advance_76 : decode cX1_advance 76 = .ok (.goto 4, 3) := by decide +kernel
theorem dX1_advance_79 : decode cX1_advance 79 = .ok (.iconst 0, 1) := by decide +kernel
theorem dX1_advance_80 : decode cX1_advance 80 = .ok (.ireturn, 1) := by decide +kernel
theorem dX1_chooseTurning_0 : decode cX1_chooseTurning 0 = .ok (.iconst 0, 1) := by decide +kernel
theorem dX1_chooseTurning_1 : decode cX1_chooseTurning 1 = .ok (.istore_n 2, 1) := by decide +kernel
theorem dX1_chooseTurning_2 : decode cX1_chooseTurning 2 = .ok (.iload_n 2, 1) := by decide +kernel
theorem dX1_chooseTurning_3 : decode cX1_chooseTurning 3 = .ok (.aload_n 1, 1) := by decide +kernel
theorem dX1_chooseTurning_4 : decode cX1_chooseTurning 4 = .ok (.getfield 51, 3) := by decide +kernel
theorem dX1_chooseTurning_7 : decode cX1_chooseTurning 7 = .ok (.if_icmp .ge 135, 3) := by decide +kernel
theorem dX1_chooseTurning_10 : decode cX1_chooseTurning 10 = .ok (.aload_n 0, 1) := by decide +kernel
theorem dX1_chooseTurning_11 : decode cX1_chooseTurning 11 = .ok (.getfield 25, 3) := by decide +kernel
theorem dX1_chooseTurning_14 : decode cX1_chooseTurning 14 = .ok (.iload_n 2, 1) := by decide +kernel
theorem dX1_chooseTurning_15 : decode cX1_chooseTurning 15 = .ok (.baload, 1) := by decide +kernel
theorem dX1_chooseTurning_16 : decode cX1_chooseTurning 16 = .ok (.ifCond .eq 27, 3) := by decide +kernel
theorem dX1_chooseTurning_19 : decode cX1_chooseTurning 19 = .ok (.aload_n 1, 1) := by decide +kernel
theorem dX1_chooseTurning_20 : decode cX1_chooseTurning 20 = .ok (.getfield 68, 3) := by decide +kernel
theorem dX1_chooseTurning_23 : decode cX1_chooseTurning 23 = .ok (.iload_n 2, 1) := by decide +kernel
theorem dX1_chooseTurning_24 : decode cX1_chooseTurning 24 = .ok (.iaload, 1) := by decide +kernel
theorem dX1_chooseTurning_25 : decode cX1_chooseTurning 25 = .ok (.i2l, 1) := by decide +kernel
theorem dX1_chooseTurning_26 : decode cX1_chooseTurning 26 = .ok (.aload_n 0, 1) := by decide +kernel
theorem dX1_chooseTurning_27 : decode cX1_chooseTurning 27 = .ok (.getfield 22, 3) := by decide +kernel
theorem dX1_chooseTurning_30 : decode cX1_chooseTurning 30 = .ok (.iload_n 2, 1) := by decide +kernel
theorem dX1_chooseTurning_31 : decode cX1_chooseTurning 31 = .ok (.laload, 1) := by decide +kernel
theorem dX1_chooseTurning_32 : decode cX1_chooseTurning 32 = .ok (.lmul, 1) := by decide +kernel
theorem dX1_chooseTurning_33 : decode cX1_chooseTurning 33 = .ok (.aload_n 0, 1) := by decide +kernel
theorem dX1_chooseTurning_34 : decode cX1_chooseTurning 34 = .ok (.getfield 18, 3) := by decide +kernel
theorem dX1_chooseTurning_37 : decode cX1_chooseTurning 37 = .ok (.iload_n 2, 1) := by decide +kernel
theorem dX1_chooseTurning_38 : decode cX1_chooseTurning 38 = .ok (.laload, 1) := by decide +kernel
theorem dX1_chooseTurning_39 : decode cX1_chooseTurning 39 = .ok (.lsub, 1) := by decide +kernel
theorem dX1_chooseTurning_40 : decode cX1_chooseTurning 40 = .ok (.goto 24, 3) := by decide +kernel
theorem dX1_chooseTurning_43 : decode cX1_chooseTurning 43 = .ok (.aload_n 0, 1) := by decide +kernel
theorem dX1_chooseTurning_44 : decode cX1_chooseTurning 44 = .ok (.getfield 18, 3) := by decide +kernel
theorem dX1_chooseTurning_47 : decode cX1_chooseTurning 47 = .ok (.iload_n 2, 1) := by decide +kernel
theorem dX1_chooseTurning_48 : decode cX1_chooseTurning 48 = .ok (.laload, 1) := by decide +kernel
theorem dX1_chooseTurning_49 : decode cX1_chooseTurning 49 = .ok (.aload_n 1, 1) := by decide +kernel
theorem dX1_chooseTurning_50 : decode cX1_chooseTurning 50 = .ok (.getfield 46, 3) := by decide +kernel
theorem dX1_chooseTurning_53 : decode cX1_chooseTurning 53 = .ok (.iload_n 2, 1) := by decide +kernel
theorem dX1_chooseTurning_54 : decode cX1_chooseTurning 54 = .ok (.iaload, 1) := by decide +kernel
theorem dX1_chooseTurning_55 : decode cX1_chooseTurning 55 = .ok (.i2l, 1) := by decide +kernel
theorem dX1_chooseTurning_56 : decode cX1_chooseTurning 56 = .ok (.aload_n 0, 1) := by decide +kernel
theorem dX1_chooseTurning_57 : decode cX1_chooseTurning 57 = .ok (.getfield 22, 3) := by decide +kernel
theorem dX1_chooseTurning_60 : decode cX1_chooseTurning 60 = .ok (.iload_n 2, 1) := by decide +kernel
theorem dX1_chooseTurning_61 : decode cX1_chooseTurning 61 = .ok (.laload, 1) := by decide +kernel
theorem dX1_chooseTurning_62 : decode cX1_chooseTurning 62 = .ok (.lmul, 1) := by decide +kernel
theorem dX1_chooseTurning_63 : decode cX1_chooseTurning 63 = .ok (.lsub, 1) := by decide +kernel
theorem dX1_chooseTurning_64 : decode cX1_chooseTurning 64 = .ok (.lstore_n 3, 1) := by decide +kernel
theorem dX1_chooseTurning_65 : decode cX1_chooseTurning 65 = .ok (.aload_n 0, 1) := by decide +kernel
theorem dX1_chooseTurning_66 : decode cX1_chooseTurning 66 = .ok (.getfield 22, 3) := by decide +kernel
theorem dX1_chooseTurning_69 : decode cX1_chooseTurning 69 = .ok (.iload_n 2, 1) := by decide +kernel
theorem dX1_chooseTurning_70 : decode cX1_chooseTurning 70 = .ok (.laload, 1) := by decide +kernel
theorem dX1_chooseTurning_71 : decode cX1_chooseTurning 71 = .ok (.aload_n 0, 1) := by decide +kernel
theorem dX1_chooseTurning_72 : decode cX1_chooseTurning 72 = .ok (.getfield 25, 3) := by decide +kernel
theorem dX1_chooseTurning_75 : decode cX1_chooseTurning 75 = .ok (.iload_n 2, 1) := by decide +kernel
theorem dX1_chooseTurning_76 : decode cX1_chooseTurning 76 = .ok (.baload, 1) := by decide +kernel
theorem dX1_chooseTurning_77 : decode cX1_chooseTurning 77 = .ok (.ifCond .eq 12, 3) := by decide +kernel
theorem dX1_chooseTurning_80 : decode cX1_chooseTurning 80 = .ok (.aload_n 1, 1) := by decide +kernel
theorem dX1_chooseTurning_81 : decode cX1_chooseTurning 81 = .ok (.getfield 71, 3) := by decide +kernel
theorem dX1_chooseTurning_84 : decode cX1_chooseTurning 84 = .ok (.iload_n 2, 1) := by decide +kernel
theorem dX1_chooseTurning_85 : decode cX1_chooseTurning 85 = .ok (.iaload, 1) := by decide +kernel
theorem dX1_chooseTurning_86 : decode cX1_chooseTurning 86 = .ok (.goto 9, 3) := by decide +kernel
theorem dX1_chooseTurning_89 : decode cX1_chooseTurning 89 = .ok (.aload_n 1, 1) := by decide +kernel
theorem dX1_chooseTurning_90 : decode cX1_chooseTurning 90 = .ok (.getfield 74, 3) := by decide +kernel
theorem dX1_chooseTurning_93 : decode cX1_chooseTurning 93 = .ok (.iload_n 2, 1) := by decide +kernel
theorem dX1_chooseTurning_94 : decode cX1_chooseTurning 94 = .ok (.iaload, 1) := by decide +kernel
theorem dX1_chooseTurning_95 : decode cX1_chooseTurning 95 = .ok (.i2l, 1) := by decide +kernel
theorem dX1_chooseTurning_96 : decode cX1_chooseTurning 96 = .ok (.lmul, 1) := by decide +kernel
theorem dX1_chooseTurning_97 : decode cX1_chooseTurning 97 = .ok (.lstore 5, 2) := by decide +kernel
theorem dX1_chooseTurning_99 : decode cX1_chooseTurning 99 = .ok (.iload_n 2, 1) := by decide +kernel
theorem dX1_chooseTurning_100 : decode cX1_chooseTurning 100 = .ok (.ifCond .eq 20, 3) := by decide +kernel
theorem dX1_chooseTurning_103 : decode cX1_chooseTurning 103 = .ok (.lload_n 3, 1) := by decide +kernel
theorem dX1_chooseTurning_104 : decode cX1_chooseTurning 104 = .ok (.aload_n 0, 1) := by decide +kernel
theorem dX1_chooseTurning_105 : decode cX1_chooseTurning 105 = .ok (.getfield 43, 3) := by decide +kernel
theorem dX1_chooseTurning_108 : decode cX1_chooseTurning 108 = .ok (.lmul, 1) := by decide +kernel
theorem dX1_chooseTurning_109 : decode cX1_chooseTurning 109 = .ok (.aload_n 0, 1) := by decide +kernel
theorem dX1_chooseTurning_110 : decode cX1_chooseTurning 110 = .ok (.getfield 40, 3) := by decide +kernel
theorem dX1_chooseTurning_113 : decode cX1_chooseTurning 113 = .ok (.lload 5, 2) := by decide +kernel
theorem dX1_chooseTurning_115 : decode cX1_chooseTurning 115 = .ok (.lmul, 1) := by decide +kernel
theorem dX1_chooseTurning_116 : decode cX1_chooseTurning 116 = .ok (.lcmp, 1) := by decide +kernel
theorem dX1_chooseTurning_117 : decode cX1_chooseTurning 117 = .ok (.ifCond .ge 19, 3) := by decide +kernel
theorem dX1_chooseTurning_120 : decode cX1_chooseTurning 120 = .ok (.aload_n 0, 1) := by decide +kernel
theorem dX1_chooseTurning_121 : decode cX1_chooseTurning 121 = .ok (.iload_n 2, 1) := by decide +kernel
theorem dX1_chooseTurning_122 : decode cX1_chooseTurning 122 = .ok (.putfield 33, 3) := by decide +kernel
theorem dX1_chooseTurning_125 : decode cX1_chooseTurning 125 = .ok (.aload_n 0, 1) := by decide +kernel
theorem dX1_chooseTurning_126 : decode cX1_chooseTurning 126 = .ok (.lload_n 3, 1) := by decide +kernel
theorem dX1_chooseTurning_127 : decode cX1_chooseTurning 127 = .ok (.putfield 40, 3) := by decide +kernel
theorem dX1_chooseTurning_130 : decode cX1_chooseTurning 130 = .ok (.aload_n 0, 1) := by decide +kernel
theorem dX1_chooseTurning_131 : decode cX1_chooseTurning 131 = .ok (.lload 5, 2) := by decide +kernel
theorem dX1_chooseTurning_133 : decode cX1_chooseTurning 133 = .ok (.putfield 43, 3) := by decide +kernel
theorem dX1_chooseTurning_136 : decode cX1_chooseTurning 136 = .ok (.iinc 2 1, 3) := by decide +kernel
theorem dX1_chooseTurning_139 : decode cX1_chooseTurning 139 = .ok (.goto (-137), 3) := by decide +kernel
theorem dX1_chooseTurning_142 : decode cX1_chooseTurning 142 = .ok (.return_, 1) := by decide +kernel
set_option maxRecDepth 20000 in
theorem ggX1_letTimePass_X2_commonOf : GoodIn wsX1_letTimePass wsX2_commonOf := goodIn_r _ [13] (by decide +kernel) (by decide +kernel)
set_option maxRecDepth 20000 in
theorem gX1_letTimePass_X2_commonOf_n77 : GoodIn wsX1_letTimePass (wsX2_commonOf) := ggX1_letTimePass_X2_commonOf
theorem dX1_letTimePass_0 : decode cX1_letTimePass 0 = .ok (.aload_n 0, 1) := by decide +kernel
theorem dX1_letTimePass_1 : decode cX1_letTimePass 1 = .ok (.getfield 9, 3) := by decide +kernel
theorem dX1_letTimePass_4 : decode cX1_letTimePass 4 = .ok (.aload_n 0, 1) := by decide +kernel
theorem dX1_letTimePass_5 : decode cX1_letTimePass 5 = .ok (.getfield 43, 3) := by decide +kernel
theorem dX1_letTimePass_8 : decode cX1_letTimePass 8 = .ok (.lmul, 1) := by decide +kernel
theorem dX1_letTimePass_9 : decode cX1_letTimePass 9 = .ok (.aload_n 0, 1) := by decide +kernel
theorem dX1_letTimePass_10 : decode cX1_letTimePass 10 = .ok (.getfield 40, 3) := by decide +kernel
theorem dX1_letTimePass_13 : decode cX1_letTimePass 13 = .ok (.aload_n 0, 1) := by decide +kernel
theorem dX1_letTimePass_14 : decode cX1_letTimePass 14 = .ok (.getfield 15, 3) := by decide +kernel
theorem dX1_letTimePass_17 : decode cX1_letTimePass 17 = .ok (.lmul, 1) := by decide +kernel
theorem dX1_letTimePass_18 : decode cX1_letTimePass 18 = .ok (.ladd, 1) := by decide +kernel
theorem dX1_letTimePass_19 : decode cX1_letTimePass 19 = .ok (.lstore_n 2, 1) := by decide +kernel
theorem dX1_letTimePass_20 : decode cX1_letTimePass 20 = .ok (.aload_n 0, 1) := by decide +kernel
theorem dX1_letTimePass_21 : decode cX1_letTimePass 21 = .ok (.getfield 15, 3) := by decide +kernel
theorem dX1_letTimePass_24 : decode cX1_letTimePass 24 = .ok (.aload_n 0, 1) := by decide +kernel
theorem dX1_letTimePass_25 : decode cX1_letTimePass 25 = .ok (.getfield 43, 3) := by decide +kernel
theorem dX1_letTimePass_28 : decode cX1_letTimePass 28 = .ok (.lmul, 1) := by decide +kernel
theorem dX1_letTimePass_29 : decode cX1_letTimePass 29 = .ok (.lstore 4, 2) := by decide +kernel
theorem dX1_letTimePass_31 : decode cX1_letTimePass 31 = .ok (.lload_n 2, 1) := by decide +kernel
theorem dX1_letTimePass_32 : decode cX1_letTimePass 32 = .ok (.lload 4, 2) := by decide +kernel
theorem dX1_letTimePass_34 : decode cX1_letTimePass 34 = .ok (.invokestatic 77, 3) := by decide +kernel
theorem dX1_letTimePass_37 : decode cX1_letTimePass 37 = .ok (.lstore 6, 2) := by decide +kernel
theorem dX1_letTimePass_39 : decode cX1_letTimePass 39 = .ok (.aload_n 0, 1) := by decide +kernel
theorem dX1_letTimePass_40 : decode cX1_letTimePass 40 = .ok (.lload_n 2, 1) := by decide +kernel
theorem dX1_letTimePass_41 : decode cX1_letTimePass 41 = .ok (.lload 6, 2) := by decide +kernel
theorem dX1_letTimePass_43 : decode cX1_letTimePass 43 = .ok (.ldiv, 1) := by decide +kernel
theorem dX1_letTimePass_44 : decode cX1_letTimePass 44 = .ok (.putfield 9, 3) := by decide +kernel
theorem dX1_letTimePass_47 : decode cX1_letTimePass 47 = .ok (.aload_n 0, 1) := by decide +kernel
theorem dX1_letTimePass_48 : decode cX1_letTimePass 48 = .ok (.lload 4, 2) := by decide +kernel
theorem dX1_letTimePass_50 : decode cX1_letTimePass 50 = .ok (.lload 6, 2) := by decide +kernel
theorem dX1_letTimePass_52 : decode cX1_letTimePass 52 = .ok (.ldiv, 1) := by decide +kernel
theorem dX1_letTimePass_53 : decode cX1_letTimePass 53 = .ok (.putfield 15, 3) := by decide +kernel
theorem dX1_letTimePass_56 : decode cX1_letTimePass 56 = .ok (.iconst 0, 1) := by decide +kernel
theorem dX1_letTimePass_57 : decode cX1_letTimePass 57 = .ok (.istore 8, 2) := by decide +kernel
theorem dX1_letTimePass_59 : decode cX1_letTimePass 59 = .ok (.iload 8, 2) := by decide +kernel
theorem dX1_letTimePass_61 : decode cX1_letTimePass 61 = .ok (.aload_n 1, 1) := by decide +kernel
theorem dX1_letTimePass_62 : decode cX1_letTimePass 62 = .ok (.getfield 51, 3) := by decide +kernel
theorem dX1_letTimePass_65 : decode cX1_letTimePass 65 = .ok (.if_icmp .ge 115, 3) := by decide +kernel
theorem dX1_letTimePass_68 : decode cX1_letTimePass 68 = .ok (.aload_n 0, 1) := by decide +kernel
theorem dX1_letTimePass_69 : decode cX1_letTimePass 69 = .ok (.getfield 25, 3) := by decide +kernel
theorem dX1_letTimePass_72 : decode cX1_letTimePass 72 = .ok (.iload 8, 2) := by decide +kernel
theorem dX1_letTimePass_74 : decode cX1_letTimePass 74 = .ok (.baload, 1) := by decide +kernel
theorem dX1_letTimePass_75 : decode cX1_letTimePass 75 = .ok (.ifCond .eq 14, 3) := by decide +kernel
theorem dX1_letTimePass_78 : decode cX1_letTimePass 78 = .ok (.aload_n 1, 1) := by decide +kernel
theorem dX1_letTimePass_79 : decode cX1_letTimePass 79 = .ok (.getfield 71, 3) := by decide +kernel
theorem dX1_letTimePass_82 : decode cX1_letTimePass 82 = .ok (.iload 8, 2) := by decide +kernel
theorem dX1_letTimePass_84 : decode cX1_letTimePass 84 = .ok (.iaload, 1) := by decide +kernel
theorem dX1_letTimePass_85 : decode cX1_letTimePass 85 = .ok (.i2l, 1) := by decide +kernel
theorem dX1_letTimePass_86 : decode cX1_letTimePass 86 = .ok (.goto 12, 3) := by decide +kernel
theorem dX1_letTimePass_89 : decode cX1_letTimePass 89 = .ok (.aload_n 1, 1) := by decide +kernel
theorem dX1_letTimePass_90 : decode cX1_letTimePass 90 = .ok (.getfield 74, 3) := by decide +kernel
theorem dX1_letTimePass_93 : decode cX1_letTimePass 93 = .ok (.iload 8, 2) := by decide +kernel
theorem dX1_letTimePass_95 : decode cX1_letTimePass 95 = .ok (.iaload, 1) := by decide +kernel
theorem dX1_letTimePass_96 : decode cX1_letTimePass 96 = .ok (.ineg, 1) := by decide +kernel
theorem dX1_letTimePass_97 : decode cX1_letTimePass 97 = .ok (.i2l, 1) := by decide +kernel
theorem dX1_letTimePass_98 : decode cX1_letTimePass 98 = .ok (.lstore 9, 2) := by decide +kernel
theorem dX1_letTimePass_100 : decode cX1_letTimePass 100 = .ok (.aload_n 0, 1) := by decide +kernel
theorem dX1_letTimePass_101 : decode cX1_letTimePass 101 = .ok (.getfield 18, 3) := by decide +kernel
theorem dX1_letTimePass_104 : decode cX1_letTimePass 104 = .ok (.iload 8, 2) := by decide +kernel
theorem dX1_letTimePass_106 : decode cX1_letTimePass 106 = .ok (.laload, 1) := by decide +kernel
theorem dX1_letTimePass_107 : decode cX1_letTimePass 107 = .ok (.aload_n 0, 1) := by decide +kernel
theorem dX1_letTimePass_108 : decode cX1_letTimePass 108 = .ok (.getfield 43, 3) := by decide +kernel
theorem dX1_letTimePass_111 : decode cX1_letTimePass 111 = .ok (.lmul, 1) := by decide +kernel
theorem dX1_letTimePass_112 : decode cX1_letTimePass 112 = .ok (.lload 9, 2) := by decide +kernel
theorem dX1_letTimePass_114 : decode cX1_letTimePass 114 = .ok (.aload_n 0, 1) := by decide +kernel
theorem dX1_letTimePass_115 : decode cX1_letTimePass 115 = .ok (.getfield 40, 3) := by decide +kernel
theorem dX1_letTimePass_118 : decode cX1_letTimePass 118 = .ok (.lmul, 1) := by decide +kernel
theorem dX1_letTimePass_119 : decode cX1_letTimePass 119 = .ok (.aload_n 0, 1) := by decide +kernel
theorem dX1_letTimePass_120 : decode cX1_letTimePass 120 = .ok (.getfield 22, 3) := by decide +kernel
theorem dX1_letTimePass_123 : decode cX1_letTimePass 123 = .ok (.iload 8, 2) := by decide +kernel
theorem dX1_letTimePass_125 : decode cX1_letTimePass 125 = .ok (.laload, 1) := by decide +kernel
theorem dX1_letTimePass_126 : decode cX1_letTimePass 126 = .ok (.lmul, 1) := by decide +kernel
theorem dX1_letTimePass_127 : decode cX1_letTimePass 127 = .ok (.ladd, 1) := by decide +kernel
theorem dX1_letTimePass_128 : decode cX1_letTimePass 128 = .ok (.lstore_n 2, 1) := by decide +kernel
theorem dX1_letTimePass_129 : decode cX1_letTimePass 129 = .ok (.aload_n 0, 1) := by decide +kernel
theorem dX1_letTimePass_130 : decode cX1_letTimePass 130 = .ok (.getfield 22, 3) := by decide +kernel
theorem dX1_letTimePass_133 : decode cX1_letTimePass 133 = .ok (.iload 8, 2) := by decide +kernel
theorem dX1_letTimePass_135 : decode cX1_letTimePass 135 = .ok (.laload, 1) := by decide +kernel
theorem dX1_letTimePass_136 : decode cX1_letTimePass 136 = .ok (.aload_n 0, 1) := by decide +kernel
theorem dX1_letTimePass_137 : decode cX1_letTimePass 137 = .ok (.getfield 43, 3) := by decide +kernel
theorem dX1_letTimePass_140 : decode cX1_letTimePass 140 = .ok (.lmul, 1) := by decide +kernel
theorem dX1_letTimePass_141 : decode cX1_letTimePass 141 = .ok (.lstore 4, 2) := by decide +kernel
theorem dX1_letTimePass_143 : decode cX1_letTimePass 143 = .ok (.lload_n 2, 1) := by decide +kernel
theorem dX1_letTimePass_144 : decode cX1_letTimePass 144 = .ok (.lload 4, 2) := by decide +kernel
theorem dX1_letTimePass_146 : decode cX1_letTimePass 146 = .ok (.invokestatic 77, 3) := by decide +kernel
theorem dX1_letTimePass_149 : decode cX1_letTimePass 149 = .ok (.lstore 6, 2) := by decide +kernel
theorem dX1_letTimePass_151 : decode cX1_letTimePass 151 = .ok (.aload_n 0, 1) := by decide +kernel
theorem dX1_letTimePass_152 : decode cX1_letTimePass 152 = .ok (.getfield 18, 3) := by decide +kernel
theorem dX1_letTimePass_155 : decode cX1_letTimePass 155 = .ok (.iload 8, 2) := by decide +kernel
theorem dX1_letTimePass_157 : decode cX1_letTimePass 157 = .ok (.lload_n 2, 1) := by decide +kernel
theorem dX1_letTimePass_158 : decode cX1_letTimePass 158 = .ok (.lload 6, 2) := by decide +kernel
theorem dX1_letTimePass_160 : decode cX1_letTimePass 160 = .ok (.ldiv, 1) := by decide +kernel
theorem dX1_letTimePass_161 : decode cX1_letTimePass 161 = .ok (.lastore, 1) := by decide +kernel
theorem dX1_letTimePass_162 : decode cX1_letTimePass 162 = .ok (.aload_n 0, 1) := by decide +kernel
theorem dX1_letTimePass_163 : decode cX1_letTimePass 163 = .ok (.getfield 22, 3) := by decide +kernel
theorem dX1_letTimePass_166 : decode cX1_letTimePass 166 = .ok (.iload 8, 2) := by decide +kernel
theorem dX1_letTimePass_168 : decode cX1_letTimePass 168 = .ok (.lload 4, 2) := by decide +kernel
theorem dX1_letTimePass_170 : decode cX1_letTimePass 170 = .ok (.lload 6, 2) := by decide +kernel
theorem dX1_letTimePass_172 : decode cX1_letTimePass 172 = .ok (.ldiv, 1) := by decide +kernel
theorem dX1_letTimePass_173 : decode cX1_letTimePass 173 = .ok (.lastore, 1) := by decide +kernel
theorem dX1_letTimePass_174 : decode cX1_letTimePass 174 = .ok (.iinc 8 1, 3) := by decide +kernel
theorem dX1_letTimePass_177 : decode cX1_letTimePass 177 = .ok (.goto (-118), 3) := by decide +kernel
theorem dX1_letTimePass_180 : decode cX1_letTimePass 180 = .ok (.return_, 1) := by decide +kernel
set_option maxRecDepth 20000 in
theorem ggX1_passOn_X1_doAct : GoodIn wsX1_passOn wsX1_doAct := goodIn_r _ [12, 13, 14, 15, 16, 17, 18, 19, 20, 21, 11, 22, 23, 24, 25, 26, 27, 28, 29, 30, 31, 32, 33, 34, 35, 36, 37, 38, 39, 40, 41, 42, 43, 44, 45, 46] (by decide +kernel) (by decide +kernel)
set_option maxRecDepth 20000 in
theorem gX1_passOn_X1_doAct : GoodIn wsX1_passOn (wsV RX1 93 RX1 yX1_doAct wsX1_doAct) := goodIn_app (goodIn_of _ (by decide +kernel)) ggX1_passOn_X1_doAct
theorem dX1_passOn_0 : decode cX1_passOn 0 = .ok (.iconst 0, 1) := by decide +kernel
theorem dX1_passOn_1 : decode cX1_passOn 1 = .ok (.istore_n 2, 1) := by decide +kernel
theorem dX1_passOn_2 : decode cX1_passOn 2 = .ok (.iload_n 2, 1) := by decide +kernel
theorem dX1_passOn_3 : decode cX1_passOn 3 = .ok (.aload_n 1, 1) := by decide +kernel
theorem dX1_passOn_4 : decode cX1_passOn 4 = .ok (.getfield 81, 3) := by decide +kernel
theorem dX1_passOn_7 : decode cX1_passOn 7 = .ok (.if_icmp .ge 73, 3) := by decide +kernel
theorem dX1_passOn_10 : decode cX1_passOn 10 = .ok (.aload_n 1, 1) := by decide +kernel
theorem dX1_passOn_11 : decode cX1_passOn 11 = .ok (.getfield 84, 3) := by decide +kernel
theorem dX1_passOn_14 : decode cX1_passOn 14 = .ok (.iload_n 2, 1) := by decide +kernel
theorem dX1_passOn_15 : decode cX1_passOn 15 = .ok (.iaload, 1) := by decide +kernel
theorem dX1_passOn_16 : decode cX1_passOn 16 = .ok (.aload_n 0, 1) := by decide +kernel
theorem dX1_passOn_17 : decode cX1_passOn 17 = .ok (.getfield 33, 3) := by decide +kernel
theorem dX1_passOn_20 : decode cX1_passOn 20 = .ok (.if_icmp .ne 54, 3) := by decide +kernel
theorem dX1_passOn_23 : decode cX1_passOn 23 = .ok (.aload_n 1, 1) := by decide +kernel
theorem dX1_passOn_24 : decode cX1_passOn 24 = .ok (.getfield 87, 3) := by decide +kernel
theorem dX1_passOn_27 : decode cX1_passOn 27 = .ok (.iload_n 2, 1) := by decide +kernel
theorem dX1_passOn_28 : decode cX1_passOn 28 = .ok (.iaload, 1) := by decide +kernel
theorem dX1_passOn_29 : decode cX1_passOn 29 = .ok (.aload_n 0, 1) := by decide +kernel
theorem dX1_passOn_30 : decode cX1_passOn 30 = .ok (.getfield 37, 3) := by decide +kernel
theorem dX1_passOn_33 : decode cX1_passOn 33 = .ok (.if_icmp .ne 41, 3) := by decide +kernel
theorem dX1_passOn_36 : decode cX1_passOn 36 = .ok (.aload_n 0, 1) := by decide +kernel
theorem dX1_passOn_37 : decode cX1_passOn 37 = .ok (.getfield 29, 3) := by decide +kernel
theorem dX1_passOn_40 : decode cX1_passOn 40 = .ok (.iload_n 2, 1) := by decide +kernel
theorem dX1_passOn_41 : decode cX1_passOn 41 = .ok (.dup2, 1) := by decide +kernel
theorem dX1_passOn_42 : decode cX1_passOn 42 = .ok (.iaload, 1) := by decide +kernel
theorem dX1_passOn_43 : decode cX1_passOn 43 = .ok (.iconst 1, 1) := by decide +kernel
theorem dX1_passOn_44 : decode cX1_passOn 44 = .ok (.iadd, 1) := by decide +kernel
theorem dX1_passOn_45 : decode cX1_passOn 45 = .ok (.iastore, 1) := by decide +kernel
theorem dX1_passOn_46 : decode cX1_passOn 46 = .ok (.aload_n 0, 1) := by decide +kernel
theorem dX1_passOn_47 : decode cX1_passOn 47 = .ok (.getfield 29, 3) := by decide +kernel
theorem dX1_passOn_50 : decode cX1_passOn 50 = .ok (.iload_n 2, 1) := by decide +kernel
theorem dX1_passOn_51 : decode cX1_passOn 51 = .ok (.iaload, 1) := by decide +kernel
theorem dX1_passOn_52 : decode cX1_passOn 52 = .ok (.aload_n 1, 1) := by decide +kernel
theorem dX1_passOn_53 : decode cX1_passOn 53 = .ok (.getfield 90, 3) := by decide +kernel
theorem dX1_passOn_56 : decode cX1_passOn 56 = .ok (.iload_n 2, 1) := by decide +kernel
theorem dX1_passOn_57 : decode cX1_passOn 57 = .ok (.iaload, 1) := by decide +kernel
theorem dX1_passOn_58 : decode cX1_passOn 58 = .ok (.if_icmp .ne 16, 3) := by decide +kernel
theorem dX1_passOn_61 : decode cX1_passOn 61 = .ok (.aload_n 0, 1) := by decide +kernel
theorem dX1_passOn_62 : decode cX1_passOn 62 = .ok (.getfield 29, 3) := by decide +kernel
theorem dX1_passOn_65 : decode cX1_passOn 65 = .ok (.iload_n 2, 1) := by decide +kernel
theorem dX1_passOn_66 : decode cX1_passOn 66 = .ok (.iconst 0, 1) := by decide +kernel
theorem dX1_passOn_67 : decode cX1_passOn 67 = .ok (.iastore, 1) := by decide +kernel
theorem dX1_passOn_68 : decode cX1_passOn 68 = .ok (.aload_n 0, 1) := by decide +kernel
theorem dX1_passOn_69 : decode cX1_passOn 69 = .ok (.aload_n 1, 1) := by decide +kernel
theorem dX1_passOn_70 : decode cX1_passOn 70 = .ok (.iload_n 2, 1) := by decide +kernel
theorem dX1_passOn_71 : decode cX1_passOn 71 = .ok (.invokevirtual 93, 3) := by decide +kernel
theorem dX1_passOn_74 : decode cX1_passOn 74 = .ok (.iinc 2 1, 3) := by decide +kernel
theorem dX1_passOn_77 : decode cX1_passOn 77 = .ok (.goto (-75), 3) := by decide +kernel
theorem dX1_passOn_80 : decode cX1_passOn 80 = .ok (.return_, 1) := by decide +kernel
set_option maxRecDepth 20000 in
theorem ggX1_doAct_X1_keepBetweenBars : GoodIn wsX1_doAct wsX1_keepBetweenBars := goodIn_r _ [11, 3, 12, 5, 13, 26, 27, 28, 29, 30, 31, 32, 33, 34, 35, 14, 15, 16, 17, 18, 19, 20, 21, 22, 23, 24, 25] (by decide +kernel) (by decide +kernel)
set_option maxRecDepth 20000 in
theorem gX1_doAct_X1_keepBetweenBars : GoodIn wsX1_doAct (wsV RX1 106 RX1 yX1_keepBetweenBars wsX1_keepBetweenBars) := goodIn_app (goodIn_of _ (by decide +kernel)) ggX1_doAct_X1_keepBetweenBars
theorem dX1_doAct_0 : decode cX1_doAct 0 = .ok (.aload_n 1, 1) := by decide +kernel
theorem dX1_doAct_1 : decode cX1_doAct 1 = .ok (.getfield 97, 3) := by decide +kernel
theorem dX1_doAct_4 : decode cX1_doAct 4 = .ok (.iload_n 2, 1) := by decide +kernel
theorem dX1_doAct_5 : decode cX1_doAct 5 = .ok (.iaload, 1) := by decide +kernel
theorem dX1_doAct_6 : decode cX1_doAct 6 = .ok (.istore_n 3, 1) := by decide +kernel
theorem dX1_doAct_7 : decode cX1_doAct 7 = .ok (.aload_n 1, 1) := by decide +kernel
theorem dX1_doAct_8 : decode cX1_doAct 8 = .ok (.getfield 100, 3) := by decide +kernel
theorem dX1_doAct_11 : decode cX1_doAct 11 = .ok (.iload_n 2, 1) := by decide +kernel
theorem dX1_doAct_12 : decode cX1_doAct 12 = .ok (.iaload, 1) := by decide +kernel
theorem dX1_doAct_13 : decode cX1_doAct 13 = .ok (.lookupswitch 82 #[(0, 27), (1, 59)], 27) := by decide +kernel
theorem dX1_doAct_40 : decode cX1_doAct 40 = .ok (.aload_n 0, 1) := by decide +kernel
theorem dX1_doAct_41 : decode cX1_doAct 41 = .ok (.getfield 18, 3) := by decide +kernel
theorem dX1_doAct_44 : decode cX1_doAct 44 = .ok (.iload_n 3, 1) := by decide +kernel
theorem dX1_doAct_45 : decode cX1_doAct 45 = .ok (.dup2, 1) := by decide +kernel
theorem dX1_doAct_46 : decode cX1_doAct 46 = .ok (.laload, 1) := by decide +kernel
theorem dX1_doAct_47 : decode cX1_doAct 47 = .ok (.aload_n 1, 1) := by decide +kernel
theorem dX1_doAct_48 : decode cX1_doAct 48 = .ok (.getfield 103, 3) := by decide +kernel
theorem dX1_doAct_51 : decode cX1_doAct 51 = .ok (.iload_n 2, 1) := by decide +kernel
theorem dX1_doAct_52 : decode cX1_doAct 52 = .ok (.iaload, 1) := by decide +kernel
theorem dX1_doAct_53 : decode cX1_doAct 53 = .ok (.i2l, 1) := by decide +kernel
theorem dX1_doAct_54 : decode cX1_doAct 54 = .ok (.aload_n 0, 1) := by decide +kernel
theorem dX1_doAct_55 : decode cX1_doAct 55 = .ok (.getfield 22, 3) := by decide +kernel
theorem dX1_doAct_58 : decode cX1_doAct 58 = .ok (.iload_n 3, 1) := by decide +kernel
theorem dX1_doAct_59 : decode cX1_doAct 59 = .ok (.laload, 1) := by decide +kernel
theorem dX1_doAct_60 : decode cX1_doAct 60 = .ok (.lmul, 1) := by decide +kernel
theorem dX1_doAct_61 : decode cX1_doAct 61 = .ok (.ladd, 1) := by decide +kernel
theorem dX1_doAct_62 : decode cX1_doAct 62 = .ok (.lastore, 1) := by decide +kernel
theorem dX1_doAct_63 : decode cX1_doAct 63 = .ok (.aload_n 0, 1) := by decide +kernel
theorem dX1_doAct_64 : decode cX1_doAct 64 = .ok (.aload_n 1, 1) := by decide +kernel
theorem dX1_doAct_65 : decode cX1_doAct 65 = .ok (.iload_n 3, 1) := by decide +kernel
theorem dX1_doAct_66 : decode cX1_doAct 66 = .ok (.invokevirtual 106, 3) := by decide +kernel
theorem dX1_doAct_69 : decode cX1_doAct 69 = .ok (.goto 46, 3) := by decide +kernel
theorem dX1_doAct_72 : decode cX1_doAct 72 = .ok (.aload_n 0, 1) := by decide +kernel
theorem dX1_doAct_73 : decode cX1_doAct 73 = .ok (.getfield 25, 3) := by decide +kernel
theorem dX1_doAct_76 : decode cX1_doAct 76 = .ok (.iload_n 3, 1) := by decide +kernel
theorem dX1_doAct_77 : decode cX1_doAct 77 = .ok (.aload_n 0, 1) := by decide +kernel
theorem dX1_doAct_78 : decode cX1_doAct 78 = .ok (.getfield 25, 3) := by decide +kernel
theorem dX1_doAct_81 : decode cX1_doAct 81 = .ok (.iload_n 3, 1) := by decide +kernel
theorem dX1_doAct_82 : decode cX1_doAct 82 = .ok (.baload, 1) := by decide +kernel
theorem dX1_doAct_83 : decode cX1_doAct 83 = .ok (.ifCond .ne 7, 3) := by decide +kernel
theorem dX1_doAct_86 : decode cX1_doAct 86 = .ok (.iconst 1, 1) := by decide +kernel
theorem dX1_doAct_87 : decode cX1_doAct 87 = .ok (.goto 4, 3) := by decide +kernel
theorem dX1_doAct_90 : decode cX1_doAct 90 = .ok (.iconst 0, 1) := by decide +kernel
theorem dX1_doAct_91 : decode cX1_doAct 91 = .ok (.bastore, 1) := by decide +kernel
theorem dX1_doAct_92 : decode cX1_doAct 92 = .ok (.goto 23, 3) := by decide +kernel
theorem dX1_doAct_95 : decode cX1_doAct 95 = .ok (.aload_n 0, 1) := by decide +kernel
theorem dX1_doAct_96 : decode cX1_doAct 96 = .ok (.getfield 25, 3) := by decide +kernel
theorem dX1_doAct_99 : decode cX1_doAct 99 = .ok (.iload_n 3, 1) := by decide +kernel
theorem dX1_doAct_100 : decode cX1_doAct 100 = .ok (.aload_n 1, 1) := by decide +kernel
theorem dX1_doAct_101 : decode cX1_doAct 101 = .ok (.getfield 103, 3) := by decide +kernel
theorem dX1_doAct_104 : decode cX1_doAct 104 = .ok (.iload_n 2, 1) := by decide +kernel
theorem dX1_doAct_105 : decode cX1_doAct 105 = .ok (.iaload, 1) := by decide +kernel
theorem dX1_doAct_106 : decode cX1_doAct 106 = .ok (.ifCond .ne 7, 3) := by decide +kernel
theorem dX1_doAct_109 : decode cX1_doAct 109 = .ok (.iconst 1, 1) := by decide +kernel
theorem dX1_doAct_110 : decode cX1_doAct 110 = .ok (.goto 4, 3) := by decide +kernel
theorem dX1_doAct_113 : decode cX1_doAct 113 = .ok (.iconst 0, 1) := by decide +kernel
theorem dX1_doAct_114 : decode cX1_doAct 114 = .ok (.bastore, 1) := by decide +kernel
theorem dX1_doAct_115 : decode cX1_doAct 115 = .ok (.return_, 1) := by decide +kernel
theorem dX1_keepBetweenBars_0 : decode cX1_keepBetweenBars 0 = .ok (.aload_n 0, 1) := by decide +kernel
theorem dX1_keepBetweenBars_1 : decode cX1_keepBetweenBars 1 = .ok (.getfield 18, 3) := by decide +kernel
theorem dX1_keepBetweenBars_4 : decode cX1_keepBetweenBars 4 = .ok (.iload_n 2, 1) := by decide +kernel
theorem dX1_keepBetweenBars_5 : decode cX1_keepBetweenBars 5 = .ok (.laload, 1) := by decide +kernel
theorem dX1_keepBetweenBars_6 : decode cX1_keepBetweenBars 6 = .ok (.aload_n 1, 1) := by decide +kernel
theorem dX1_keepBetweenBars_7 : decode cX1_keepBetweenBars 7 = .ok (.getfield 68, 3) := by decide +kernel
theorem dX1_keepBetweenBars_10 : decode cX1_keepBetweenBars 10 = .ok (.iload_n 2, 1) := by decide +kernel
theorem dX1_keepBetweenBars_11 : decode cX1_keepBetweenBars 11 = .ok (.iaload, 1) := by decide +kernel
theorem dX1_keepBetweenBars_12 : decode cX1_keepBetweenBars 12 = .ok (.i2l, 1) := by decide +kernel
theorem dX1_keepBetweenBars_13 : decode cX1_keepBetweenBars 13 = .ok (.aload_n 0, 1) := by decide +kernel
theorem dX1_keepBetweenBars_14 : decode cX1_keepBetweenBars 14 = .ok (.getfield 22, 3) := by decide +kernel
theorem dX1_keepBetweenBars_17 : decode cX1_keepBetweenBars 17 = .ok (.iload_n 2, 1) := by decide +kernel
theorem dX1_keepBetweenBars_18 : decode cX1_keepBetweenBars 18 = .ok (.laload, 1) := by decide +kernel
theorem dX1_keepBetweenBars_19 : decode cX1_keepBetweenBars 19 = .ok (.lmul, 1) := by decide +kernel
theorem dX1_keepBetweenBars_20 : decode cX1_keepBetweenBars 20 = .ok (.lcmp, 1) := by decide +kernel
theorem dX1_keepBetweenBars_21 : decode cX1_keepBetweenBars 21 = .ok (.ifCond .le 26, 3) := by decide +kernel
theorem dX1_keepBetweenBars_24 : decode cX1_keepBetweenBars 24 = .ok (.aload_n 0, 1) := by decide +kernel
theorem dX1_keepBetweenBars_25 : decode cX1_keepBetweenBars 25 = .ok (.getfield 18, 3) := by decide +kernel
theorem dX1_keepBetweenBars_28 : decode cX1_keepBetweenBars 28 = .ok (.iload_n 2, 1) := by decide +kernel
theorem dX1_keepBetweenBars_29 : decode cX1_keepBetweenBars 29 = .ok (.aload_n 1, 1) := by decide +kernel
theorem dX1_keepBetweenBars_30 : decode cX1_keepBetweenBars 30 = .ok (.getfield 68, 3) := by decide +kernel
theorem dX1_keepBetweenBars_33 : decode cX1_keepBetweenBars 33 = .ok (.iload_n 2, 1) := by decide +kernel
theorem dX1_keepBetweenBars_34 : decode cX1_keepBetweenBars 34 = .ok (.iaload, 1) := by decide +kernel
theorem dX1_keepBetweenBars_35 : decode cX1_keepBetweenBars 35 = .ok (.i2l, 1) := by decide +kernel
theorem dX1_keepBetweenBars_36 : decode cX1_keepBetweenBars 36 = .ok (.lastore, 1) := by decide +kernel
theorem dX1_keepBetweenBars_37 : decode cX1_keepBetweenBars 37 = .ok (.aload_n 0, 1) := by decide +kernel
theorem dX1_keepBetweenBars_38 : decode cX1_keepBetweenBars 38 = .ok (.getfield 22, 3) := by decide +kernel
theorem dX1_keepBetweenBars_41 : decode cX1_keepBetweenBars 41 = .ok (.iload_n 2, 1) := by decide +kernel
theorem dX1_keepBetweenBars_42 : decode cX1_keepBetweenBars 42 = .ok (.lconst 1, 1) := by decide +kernel
theorem dX1_keepBetweenBars_43 : decode cX1_keepBetweenBars 43 = .ok (.lastore, 1) := by decide +kernel
theorem dX1_keepBetweenBars_44 : decode cX1_keepBetweenBars 44 = .ok (.goto 47, 3) := by decide +kernel
theorem dX1_keepBetweenBars_47 : decode cX1_keepBetweenBars 47 = .ok (.aload_n 0, 1) := by decide +kernel
theorem dX1_keepBetweenBars_48 : decode cX1_keepBetweenBars 48 = .ok (.getfield 18, 3) := by decide +kernel
theorem dX1_keepBetweenBars_51 : decode cX1_keepBetweenBars 51 = .ok (.iload_n 2, 1) := by decide +kernel
theorem dX1_keepBetweenBars_52 : decode cX1_keepBetweenBars 52 = .ok (.laload, 1) := by decide +kernel
theorem dX1_keepBetweenBars_53 : decode cX1_keepBetweenBars 53 = .ok (.aload_n 1, 1) := by decide +kernel
theorem dX1_keepBetweenBars_54 : decode cX1_keepBetweenBars 54 = .ok (.getfield 46, 3) := by decide +kernel
theorem dX1_keepBetweenBars_57 : decode cX1_keepBetweenBars 57 = .ok (.iload_n 2, 1) := by decide +kernel
theorem dX1_keepBetweenBars_58 : decode cX1_keepBetweenBars 58 = .ok (.iaload, 1) := by decide +kernel
theorem dX1_keepBetweenBars_59 : decode cX1_keepBetweenBars 59 = .ok (.i2l, 1) := by decide +kernel
theorem dX1_keepBetweenBars_60 : decode cX1_keepBetweenBars 60 = .ok (.aload_n 0, 1) := by decide +kernel
theorem dX1_keepBetweenBars_61 : decode cX1_keepBetweenBars 61 = .ok (.getfield 22, 3) := by decide +kernel
theorem dX1_keepBetweenBars_64 : decode cX1_keepBetweenBars 64 = .ok (.iload_n 2, 1) := by decide +kernel
theorem dX1_keepBetweenBars_65 : decode cX1_keepBetweenBars 65 = .ok (.laload, 1) := by decide +kernel
theorem dX1_keepBetweenBars_66 : decode cX1_keepBetweenBars 66 = .ok (.lmul, 1) := by decide +kernel
theorem dX1_keepBetweenBars_67 : decode cX1_keepBetweenBars 67 = .ok (.lcmp, 1) := by decide +kernel
theorem dX1_keepBetweenBars_68 : decode cX1_keepBetweenBars 68 = .ok (.ifCond .ge 23, 3) := by decide +kernel
theorem dX1_keepBetweenBars_71 : decode cX1_keepBetweenBars 71 = .ok (.aload_n 0, 1) := by decide +kernel
theorem dX1_keepBetweenBars_72 : decode cX1_keepBetweenBars 72 = .ok (.getfield 18, 3) := by decide +kernel
theorem dX1_keepBetweenBars_75 : decode cX1_keepBetweenBars 75 = .ok (.iload_n 2, 1) := by decide +kernel
theorem dX1_keepBetweenBars_76 : decode cX1_keepBetweenBars 76 = .ok (.aload_n 1, 1) := by decide +kernel
theorem dX1_keepBetweenBars_77 : decode cX1_keepBetweenBars 77 = .ok (.getfield 46, 3) := by decide +kernel
theorem dX1_keepBetweenBars_80 : decode cX1_keepBetweenBars 80 = .ok (.iload_n 2, 1) := by decide +kernel
theorem dX1_keepBetweenBars_81 : decode cX1_keepBetweenBars 81 = .ok (.iaload, 1) := by decide +kernel
theorem dX1_keepBetweenBars_82 : decode cX1_keepBetweenBars 82 = .ok (.i2l, 1) := by decide +kernel
theorem dX1_keepBetweenBars_83 : decode cX1_keepBetweenBars 83 = .ok (.lastore, 1) := by decide +kernel
theorem dX1_keepBetweenBars_84 : decode cX1_keepBetweenBars 84 = .ok (.aload_n 0, 1) := by decide +kernel
theorem dX1_keepBetweenBars_85 : decode cX1_keepBetweenBars 85 = .ok (.getfield 22, 3) := by decide +kernel
theorem dX1_keepBetweenBars_88 : decode cX1_keepBetweenBars 88 = .ok (.iload_n 2, 1) := by decide +kernel
theorem dX1_keepBetweenBars_89 : decode cX1_keepBetweenBars 89 = .ok (.lconst 1, 1) := by decide +kernel
theorem dX1_keepBetweenBars_90 : decode cX1_keepBetweenBars 90 = .ok (.lastore, 1) := by decide +kernel
theorem dX1_keepBetweenBars_91 : decode cX1_keepBetweenBars 91 = .ok (.return_, 1) := by decide +kernel
set_option maxRecDepth 20000 in
theorem ggX1_isSpent_X1_isTooLong : GoodIn wsX1_isSpent wsX1_isTooLong := goodIn_r _ [9, 10, 11] (by decide +kernel) (by decide +kernel)
set_option maxRecDepth 20000 in
theorem gX1_isSpent_X1_isTooLong : GoodIn wsX1_isSpent (va_wsS RX1 109 yX1_isTooLong wsX1_isTooLong) := goodIn_app (goodIn_of _ (by decide +kernel)) ggX1_isSpent_X1_isTooLong
theorem dX1_isSpent_0 : decode cX1_isSpent 0 = .ok (.aload_n 0, 1) := by decide +kernel
theorem dX1_isSpent_1 : decode cX1_isSpent 1 = .ok (.getfield 9, 3) := by decide +kernel
theorem dX1_isSpent_4 : decode cX1_isSpent 4 = .ok (.aload_n 0, 1) := by decide +kernel
theorem dX1_isSpent_5 : decode cX1_isSpent 5 = .ok (.getfield 15, 3) := by decide +kernel
theorem dX1_isSpent_8 : decode cX1_isSpent 8 = .ok (.invokestatic 109, 3) := by decide +kernel
theorem dX1_isSpent_11 : decode cX1_isSpent 11 = .ok (.ifCond .eq 5, 3) := by decide +kernel
theorem dX1_isSpent_14 : decode cX1_isSpent 14 = .ok (.iconst 1, 1) := by decide +kernel
theorem dX1_isSpent_15 : decode cX1_isSpent 15 = .ok (.ireturn, 1) := by decide +kernel
theorem dX1_isSpent_16 : decode cX1_isSpent 16 = .ok (.iconst 0, 1) := by decide +kernel
theorem dX1_isSpent_17 : decode cX1_isSpent 17 = .ok (.istore_n 2, 1) := by decide +kernel
theorem dX1_isSpent_18 : decode cX1_isSpent 18 = .ok (.iload_n 2, 1) := by decide +kernel
theorem dX1_isSpent_19 : decode cX1_isSpent 19 = .ok (.aload_n 1, 1) := by decide +kernel
theorem dX1_isSpent_20 : decode cX1_isSpent 20 = .ok (.getfield 51, 3) := by decide +kernel
theorem dX1_isSpent_23 : decode cX1_isSpent 23 = .ok (.if_icmp .ge 29, 3) := by decide +kernel
theorem dX1_isSpent_26 : decode cX1_isSpent 26 = .ok (.aload_n 0, 1) := by decide +kernel
theorem dX1_isSpent_27 : decode cX1_isSpent 27 = .ok (.getfield 18, 3) := by decide +kernel
theorem dX1_isSpent_30 : decode cX1_isSpent 30 = .ok (.iload_n 2, 1) := by decide +kernel
theorem dX1_isSpent_31 : decode cX1_isSpent 31 = .ok (.laload, 1) := by decide +kernel
theorem dX1_isSpent_32 : decode cX1_isSpent 32 = .ok (.aload_n 0, 1) := by decide +kernel
theorem dX1_isSpent_33 : decode cX1_isSpent 33 = .ok (.getfield 22, 3) := by decide +kernel
theorem dX1_isSpent_36 : decode cX1_isSpent 36 = .ok (.iload_n 2, 1) := by decide +kernel
theorem dX1_isSpent_37 : decode cX1_isSpent 37 = .ok (.laload, 1) := by decide +kernel
theorem dX1_isSpent_38 : decode cX1_isSpent 38 = .ok (.invokestatic 109, 3) := by decide +kernel
theorem dX1_isSpent_41 : decode cX1_isSpent 41 = .ok (.ifCond .eq 5, 3) := by decide +kernel
theorem dX1_isSpent_44 : decode cX1_isSpent 44 = .ok (.iconst 1, 1) := by decide +kernel
theorem dX1_isSpent_45 : decode cX1_isSpent 45 = .ok (.ireturn, 1) := by decide +kernel
theorem dX1_isSpent_46 : decode cX1_isSpent 46 = .ok (.iinc 2 1, 3) := by decide +kernel
theorem dX1_isSpent_49 : decode cX1_isSpent 49 = .ok (.goto (-31), 3) := by decide +kernel
theorem dX1_isSpent_52 : decode cX1_isSpent 52 = .ok (.iconst 0, 1) := by decide +kernel
theorem dX1_isSpent_53 : decode cX1_isSpent 53 = .ok (.ireturn, 1) := by decide +kernel
theorem dX1_isTooLong_0 : decode cX1_isTooLong 0 = .ok (.lload_n 0, 1) := by decide +kernel
theorem dX1_isTooLong_1 : decode cX1_isTooLong 1 = .ok (.ldc2_w 113, 3) := by decide +kernel
theorem dX1_isTooLong_4 : decode cX1_isTooLong 4 = .ok (.lcmp, 1) := by decide +kernel
theorem dX1_isTooLong_5 : decode cX1_isTooLong 5 = .ok (.ifCond .gt 19, 3) := by decide +kernel
theorem dX1_isTooLong_8 : decode cX1_isTooLong 8 = .ok (.lload_n 0, 1) := by decide +kernel
theorem dX1_isTooLong_9 : decode cX1_isTooLong 9 = .ok (.ldc2_w 115, 3) := by decide +kernel
theorem dX1_isTooLong_12 : decode cX1_isTooLong 12 = .ok (.lcmp, 1) := by decide +kernel
theorem dX1_isTooLong_13 : decode cX1_isTooLong 13 = .ok (.ifCond .lt 11, 3) := by decide +kernel
theorem dX1_isTooLong_16 : decode cX1_isTooLong 16 = .ok (.lload_n 2, 1) := by decide +kernel
theorem dX1_isTooLong_17 : decode cX1_isTooLong 17 = .ok (.ldc2_w 113, 3) := by decide +kernel
theorem dX1_isTooLong_20 : decode cX1_isTooLong 20 = .ok (.lcmp, 1) := by decide +kernel
theorem dX1_isTooLong_21 : decode cX1_isTooLong 21 = .ok (.ifCond .le 7, 3) := by decide +kernel
theorem dX1_isTooLong_24 : decode cX1_isTooLong 24 = .ok (.iconst 1, 1) := by decide +kernel
theorem dX1_isTooLong_25 : decode cX1_isTooLong 25 = .ok (.goto 4, 3) := by decide +kernel
theorem dX1_isTooLong_28 : decode cX1_isTooLong 28 = .ok (.iconst 0, 1) := by decide +kernel
theorem dX1_isTooLong_29 : decode cX1_isTooLong 29 = .ok (.ireturn, 1) := by decide +kernel
set_option maxRecDepth 20000 in
theorem ggX1_packedEvent_X2_packed : GoodIn wsX1_packedEvent wsX2_packed := goodIn_r _ [7] (by decide +kernel) (by decide +kernel)
set_option maxRecDepth 20000 in
theorem gX1_packedEvent_X2_packed_n117 : GoodIn wsX1_packedEvent (wsX2_packed) := ggX1_packedEvent_X2_packed
theorem dX1_packedEvent_0 : decode cX1_packedEvent 0 = .ok (.aload_n 0, 1) := by decide +kernel
theorem dX1_packedEvent_1 : decode cX1_packedEvent 1 = .ok (.getfield 9, 3) := by decide +kernel
theorem dX1_packedEvent_4 : decode cX1_packedEvent 4 = .ok (.aload_n 0, 1) := by decide +kernel
theorem dX1_packedEvent_5 : decode cX1_packedEvent 5 = .ok (.getfield 15, 3) := by decide +kernel
theorem dX1_packedEvent_8 : decode cX1_packedEvent 8 = .ok (.invokestatic 117, 3) := by decide +kernel
theorem dX1_packedEvent_11 : decode cX1_packedEvent 11 = .ok (.iconst 3, 1) := by decide +kernel
theorem dX1_packedEvent_12 : decode cX1_packedEvent 12 = .ok (.lshl, 1) := by decide +kernel
theorem dX1_packedEvent_13 : decode cX1_packedEvent 13 = .ok (.aload_n 0, 1) := by decide +kernel
theorem dX1_packedEvent_14 : decode cX1_packedEvent 14 = .ok (.getfield 33, 3) := by decide +kernel
theorem dX1_packedEvent_17 : decode cX1_packedEvent 17 = .ok (.iconst 2, 1) := by decide +kernel
theorem dX1_packedEvent_18 : decode cX1_packedEvent 18 = .ok (.imul, 1) := by decide +kernel
theorem dX1_packedEvent_19 : decode cX1_packedEvent 19 = .ok (.i2l, 1) := by decide +kernel
theorem dX1_packedEvent_20 : decode cX1_packedEvent 20 = .ok (.ladd, 1) := by decide +kernel
theorem dX1_packedEvent_21 : decode cX1_packedEvent 21 = .ok (.aload_n 0, 1) := by decide +kernel
theorem dX1_packedEvent_22 : decode cX1_packedEvent 22 = .ok (.getfield 37, 3) := by decide +kernel
theorem dX1_packedEvent_25 : decode cX1_packedEvent 25 = .ok (.i2l, 1) := by decide +kernel
theorem dX1_packedEvent_26 : decode cX1_packedEvent 26 = .ok (.ladd, 1) := by decide +kernel
theorem dX1_packedEvent_27 : decode cX1_packedEvent 27 = .ok (.lreturn, 1) := by decide +kernel
theorem dX1_packedMarks_0 : decode cX1_packedMarks 0 = .ok (.lconst 0, 1) := by decide +kernel
theorem dX1_packedMarks_1 : decode cX1_packedMarks 1 = .ok (.lstore_n 1, 1) := by decide +kernel
theorem dX1_packedMarks_2 : decode cX1_packedMarks 2 = .ok (.iconst 0, 1) := by decide +kernel
theorem dX1_packedMarks_3 : decode cX1_packedMarks 3 = .ok (.istore_n 3, 1) := by decide +kernel
theorem dX1_packedMarks_4 : decode cX1_packedMarks 4 = .ok (.iload_n 3, 1) := by decide +kernel
theorem dX1_packedMarks_5 : decode cX1_packedMarks 5 = .ok (.iconst 4, 1) := by decide +kernel
theorem dX1_packedMarks_6 : decode cX1_packedMarks 6 = .ok (.if_icmp .ge 31, 3) := by decide +kernel
theorem dX1_packedMarks_9 : decode cX1_packedMarks 9 = .ok (.lload_n 1, 1) := by decide +kernel
theorem dX1_packedMarks_10 : decode cX1_packedMarks 10 = .ok (.ldc2_w 120, 3) := by decide +kernel
theorem dX1_packedMarks_13 : decode cX1_packedMarks 13 = .ok (.lmul, 1) := by decide +kernel
theorem dX1_packedMarks_14 : decode cX1_packedMarks 14 = .ok (.aload_n 0, 1) := by decide +kernel
theorem dX1_packedMarks_15 : decode cX1_packedMarks 15 = .ok (.getfield 25, 3) := by decide +kernel
theorem dX1_packedMarks_18 : decode cX1_packedMarks 18 = .ok (.iload_n 3, 1) := by decide +kernel
theorem dX1_packedMarks_19 : decode cX1_packedMarks 19 = .ok (.baload, 1) := by decide +kernel
theorem dX1_packedMarks_20 : decode cX1_packedMarks 20 = .ok (.ifCond .eq 7, 3) := by decide +kernel
theorem dX1_packedMarks_23 : decode cX1_packedMarks 23 = .ok (.iconst 1, 1) := by decide +kernel
theorem dX1_packedMarks_24 : decode cX1_packedMarks 24 = .ok (.goto 4, 3) := by decide +kernel
theorem dX1_packedMarks_27 : decode cX1_packedMarks 27 = .ok (.iconst 0, 1) := by decide +kernel
theorem dX1_packedMarks_28 : decode cX1_packedMarks 28 = .ok (.i2l, 1) := by decide +kernel
theorem dX1_packedMarks_29 : decode cX1_packedMarks 29 = .ok (.ladd, 1) := by decide +kernel
theorem dX1_packedMarks_30 : decode cX1_packedMarks 30 = .ok (.lstore_n 1, 1) := by decide +kernel
theorem dX1_packedMarks_31 : decode cX1_packedMarks 31 = .ok (.iinc 3 1, 3) := by decide +kernel
theorem dX1_packedMarks_34 : decode cX1_packedMarks 34 = .ok (.goto (-30), 3) := by decide +kernel
theorem dX1_packedMarks_37 : decode cX1_packedMarks 37 = .ok (.iconst 0, 1) := by decide +kernel
theorem dX1_packedMarks_38 : decode cX1_packedMarks 38 = .ok (.istore_n 3, 1) := by decide +kernel
theorem dX1_packedMarks_39 : decode cX1_packedMarks 39 = .ok (.iload_n 3, 1) := by decide +kernel
theorem dX1_packedMarks_40 : decode cX1_packedMarks 40 = .ok (.bipush 8, 2) := by decide +kernel
theorem dX1_packedMarks_42 : decode cX1_packedMarks 42 = .ok (.if_icmp .ge 21, 3) := by decide +kernel
theorem dX1_packedMarks_45 : decode cX1_packedMarks 45 = .ok (.lload_n 1, 1) := by decide +kernel
theorem dX1_packedMarks_46 : decode cX1_packedMarks 46 = .ok (.iconst 4, 1) := by decide +kernel
theorem dX1_packedMarks_47 : decode cX1_packedMarks 47 = .ok (.lshl, 1) := by decide +kernel
theorem dX1_packedMarks_48 : decode cX1_packedMarks 48 = .ok (.aload_n 0, 1) := by decide +kernel
theorem dX1_packedMarks_49 : decode cX1_packedMarks 49 = .ok (.getfield 29, 3) := by decide +kernel
theorem dX1_packedMarks_52 : decode cX1_packedMarks 52 = .ok (.iload_n 3, 1) := by decide +kernel
theorem dX1_packedMarks_53 : decode cX1_packedMarks 53 = .ok (.iaload, 1) := by decide +kernel
theorem dX1_packedMarks_54 : decode cX1_packedMarks 54 = .ok (.i2l, 1) := by decide +kernel
theorem dX1_packedMarks_55 : decode cX1_packedMarks 55 = .ok (.ladd, 1) := by decide +kernel
theorem dX1_packedMarks_56 : decode cX1_packedMarks 56 = .ok (.lstore_n 1, 1) := by decide +kernel
theorem dX1_packedMarks_57 : decode cX1_packedMarks 57 = .ok (.iinc 3 1, 3) := by decide +kernel
theorem dX1_packedMarks_60 : decode cX1_packedMarks 60 = .ok (.goto (-21), 3) := by decide +kernel
theorem dX1_packedMarks_63 : decode cX1_packedMarks 63 = .ok (.lload_n 1, 1) := by decide +kernel
theorem dX1_packedMarks_64 : decode cX1_packedMarks 64 = .ok (.lreturn, 1) := by decide +kernel
set_option maxRecDepth 20000 in
theorem ggX2_init_X0_init : GoodIn wsX2_init wsX0_init := goodIn_r _ [30, 31, 2, 3, 32, 14, 33, 34, 35, 36, 37, 38, 39, 40, 41, 42, 43, 58, 59, 60, 61, 62, 63, 64, 65, 66, 67, 68, 69] (by decide +kernel) (by decide +kernel)
set_option maxRecDepth 20000 in
theorem gX2_init_X0_init_n11 : GoodIn wsX2_init (wsX0_init) := ggX2_init_X0_init
set_option maxRecDepth 20000 in
theorem ggX2_init_X1_init : GoodIn wsX2_init wsX1_init := goodIn_r _ [45, 46, 2, 3, 47, 48, 17, 49, 50, 51, 52, 14, 53, 54, 55, 56, 57, 87, 88, 89, 90, 91, 92, 93, 94, 95, 96] (by decide +kernel) (by decide +kernel)
set_option maxRecDepth 20000 in
theorem gX2_init_X1_init_n18 : GoodIn wsX2_init (wsX1_init) := ggX2_init_X1_init
theorem dX2_init_0 : decode cX2_init 0 = .ok (.aload_n 0, 1) := by decide +kernel
theorem dX2_init_1 : decode cX2_init 1 = .ok (.invokespecial 3, 3) := by decide +kernel
theorem dX2_init_4 : decode cX2_init 4 = .ok (.aload_n 0, 1) := by decide +kernel
theorem dX2_init_5 : decode cX2_init 5 = .ok (.new 9, 3) := by decide +kernel
theorem dX2_init_8 : decode cX2_init 8 = .ok (.dup, 1) := by decide +kernel
theorem dX2_init_9 : decode cX2_init 9 = .ok (.invokespecial 11, 3) := by decide +kernel
theorem dX2_init_12 : decode cX2_init 12 = .ok (.putfield 12, 3) := by decide +kernel
theorem dX2_init_15 : decode cX2_init 15 = .ok (.aload_n 0, 1) := by decide +kernel
theorem dX2_init_16 : decode cX2_init 16 = .ok (.new 16, 3) := by decide +kernel
theorem dX2_init_19 : decode cX2_init 19 = .ok (.dup, 1) := by decide +kernel
theorem dX2_init_20 : decode cX2_init 20 = .ok (.invokespecial 18, 3) := by decide +kernel
theorem dX2_init_23 : decode cX2_init 23 = .ok (.putfield 19, 3) := by decide +kernel
theorem dX2_init_26 : decode cX2_init 26 = .ok (.aload_n 0, 1) := by decide +kernel
theorem dX2_init_27 : decode cX2_init 27 = .ok (.new 16, 3) := by decide +kernel
theorem dX2_init_30 : decode cX2_init 30 = .ok (.dup, 1) := by decide +kernel
theorem dX2_init_31 : decode cX2_init 31 = .ok (.invokespecial 18, 3) := by decide +kernel
theorem dX2_init_34 : decode cX2_init 34 = .ok (.putfield 23, 3) := by decide +kernel
theorem dX2_init_37 : decode cX2_init 37 = .ok (.aload_n 0, 1) := by decide +kernel
theorem dX2_init_38 : decode cX2_init 38 = .ok (.iconst 0, 1) := by decide +kernel
theorem dX2_init_39 : decode cX2_init 39 = .ok (.putfield 26, 3) := by decide +kernel
theorem dX2_init_42 : decode cX2_init 42 = .ok (.aload_n 0, 1) := by decide +kernel
theorem dX2_init_43 : decode cX2_init 43 = .ok (.iconst 4, 1) := by decide +kernel
theorem dX2_init_44 : decode cX2_init 44 = .ok (.newarray .int, 2) := by decide +kernel
theorem dX2_init_46 : decode cX2_init 46 = .ok (.putfield 30, 3) := by decide +kernel
theorem dX2_init_49 : decode cX2_init 49 = .ok (.aload_n 0, 1) := by decide +kernel
theorem dX2_init_50 : decode cX2_init 50 = .ok (.iconst 4, 1) := by decide +kernel
theorem dX2_init_51 : decode cX2_init 51 = .ok (.newarray .int, 2) := by decide +kernel
theorem dX2_init_53 : decode cX2_init 53 = .ok (.putfield 34, 3) := by decide +kernel
theorem dX2_init_56 : decode cX2_init 56 = .ok (.aload_n 0, 1) := by decide +kernel
theorem dX2_init_57 : decode cX2_init 57 = .ok (.sipush 500, 3) := by decide +kernel
theorem dX2_init_60 : decode cX2_init 60 = .ok (.newarray .long, 2) := by decide +kernel
theorem dX2_init_62 : decode cX2_init 62 = .ok (.putfield 37, 3) := by decide +kernel
theorem dX2_init_65 : decode cX2_init 65 = .ok (.aload_n 0, 1) := by decide +kernel
theorem dX2_init_66 : decode cX2_init 66 = .ok (.sipush 1806, 3) := by decide +kernel
theorem dX2_init_69 : decode cX2_init 69 = .ok (.newarray .long, 2) := by decide +kernel
theorem dX2_init_71 : decode cX2_init 71 = .ok (.putfield 41, 3) := by decide +kernel
theorem dX2_init_74 : decode cX2_init 74 = .ok (.aload_n 0, 1) := by decide +kernel
theorem dX2_init_75 : decode cX2_init 75 = .ok (.bipush 8, 2) := by decide +kernel
theorem dX2_init_77 : decode cX2_init 77 = .ok (.newarray .long, 2) := by decide +kernel
theorem dX2_init_79 : decode cX2_init 79 = .ok (.putfield 44, 3) := by decide +kernel
theorem dX2_init_82 : decode cX2_init 82 = .ok (.aload_n 0, 1) := by decide +kernel
theorem dX2_init_83 : decode cX2_init 83 = .ok (.iconst 0, 1) := by decide +kernel
theorem dX2_init_84 : decode cX2_init 84 = .ok (.putfield 47, 3) := by decide +kernel
theorem dX2_init_87 : decode cX2_init 87 = .ok (.aload_n 0, 1) := by decide +kernel
theorem dX2_init_88 : decode cX2_init 88 = .ok (.bipush 10, 2) := by decide +kernel
theorem dX2_init_90 : decode cX2_init 90 = .ok (.newarray .int, 2) := by decide +kernel
theorem dX2_init_92 : decode cX2_init 92 = .ok (.putfield 51, 3) := by decide +kernel
theorem dX2_init_95 : decode cX2_init 95 = .ok (.aload_n 0, 1) := by decide +kernel
theorem dX2_init_96 : decode cX2_init 96 = .ok (.iconst 0, 1) := by decide +kernel
theorem dX2_init_97 : decode cX2_init 97 = .ok (.putfield 54, 3) := by decide +kernel
theorem dX2_init_100 : decode cX2_init 100 = .ok (.aload_n 0, 1) := by decide +kernel
theorem dX2_init_101 : decode cX2_init 101 = .ok (.bipush 8, 2) := by decide +kernel
theorem dX2_init_103 : decode cX2_init 103 = .ok (.newarray .int, 2) := by decide +kernel
theorem dX2_init_105 : decode cX2_init 105 = .ok (.putfield 57, 3) := by decide +kernel
theorem dX2_init_108 : decode cX2_init 108 = .ok (.aload_n 0, 1) := by decide +kernel
theorem dX2_init_109 : decode cX2_init 109 = .ok (.bipush 8, 2) := by decide +kernel
theorem dX2_init_111 : decode cX2_init 111 = .ok (.newarray .int, 2) := by decide +kernel
theorem dX2_init_113 : decode cX2_init 113 = .ok (.putfield 60, 3) := by decide +kernel
theorem dX2_init_116 : decode cX2_init 116 = .ok (.aload_n 0, 1) := by decide +kernel
theorem dX2_init_117 : decode cX2_init 117 = .ok (.iconst 0, 1) := by decide +kernel
theorem dX2_init_118 : decode cX2_init 118 = .ok (.putfield 63, 3) := by decide +kernel
theorem dX2_init_121 : decode cX2_init 121 = .ok (.aload_n 0, 1) := by decide +kernel
theorem dX2_init_122 : decode cX2_init 122 = .ok (.bipush 100, 2) := by decide +kernel
theorem dX2_init_124 : decode cX2_init 124 = .ok (.newarray .int, 2) := by decide +kernel
theorem dX2_init_126 : decode cX2_init 126 = .ok (.putfield 66, 3) := by decide +kernel
theorem dX2_init_129 : decode cX2_init 129 = .ok (.aload_n 0, 1) := by decide +kernel
theorem dX2_init_130 : decode cX2_init 130 = .ok (.bipush 80, 2) := by decide +kernel
theorem dX2_init_132 : decode cX2_init 132 = .ok (.newarray .int, 2) := by decide +kernel
theorem dX2_init_134 : decode cX2_init 134 = .ok (.putfield 69, 3) := by decide +kernel
theorem dX2_init_137 : decode cX2_init 137 = .ok (.return_, 1) := by decide +kernel
set_option maxRecDepth 20000 in
theorem ggX2_cell_X2_isRate : GoodIn wsX2_cell wsX2_isRate := goodIn_r _ [10] (by decide +kernel) (by decide +kernel)
set_option maxRecDepth 20000 in
theorem gX2_cell_X2_isRate : GoodIn wsX2_cell (va_wsS RX2 72 yX2_isRate wsX2_isRate) := goodIn_app (goodIn_of _ (by decide +kernel)) ggX2_cell_X2_isRate
set_option maxRecDepth 20000 in
theorem ggX2_cell_X2_startAgain : GoodIn wsX2_cell wsX2_startAgain := goodIn_r _ [14, 15, 1, 16, 17, 18, 19, 20, 21, 22, 23, 24, 25, 26, 27, 28, 29, 30, 31, 32, 33, 34, 35, 36, 37, 38, 39, 40, 41, 42, 43, 44, 45, 46, 47, 60, 61, 62, 63, 64, 65, 66, 67, 68, 69, 48, 49, 50, 51, 52, 53, 54, 55, 56, 57, 58, 59] (by decide +kernel) (by decide +kernel)
set_option maxRecDepth 20000 in
theorem gX2_cell_X2_startAgain : GoodIn wsX2_cell (wsV RX2 91 RX2 yX2_startAgain wsX2_startAgain) := goodIn_app (goodIn_of _ (by decide +kernel)) ggX2_cell_X2_startAgain
theorem dX2_cell_0 : decode cX2_cell 0 = .ok (.iload_n 1, 1) := by decide +kernel
theorem dX2_cell_1 : decode cX2_cell 1 = .ok (.bipush (-50), 2) := by decide +kernel
theorem dX2_cell_3 : decode cX2_cell 3 = .ok (.if_icmp .lt 18, 3) := by decide +kernel
theorem dX2_cell_6 : decode cX2_cell 6 = .ok (.iload_n 1, 1) := by decide +kernel
theorem dX2_cell_7 : decode cX2_cell 7 = .ok (.iload_n 2, 1) := by decide +kernel
theorem dX2_cell_8 : decode cX2_cell 8 = .ok (.if_icmp .ge 13, 3) := by decide +kernel
theorem dX2_cell_11 : decode cX2_cell 11 = .ok (.iload_n 2, 1) := by decide +kernel
theorem dX2_cell_12 : decode cX2_cell 12 = .ok (.bipush 50, 2) := by decide +kernel
theorem dX2_cell_14 : decode cX2_cell 14 = .ok (.if_icmp .gt 7, 3) := by decide +kernel
theorem dX2_cell_17 : decode cX2_cell 17 = .ok (.iconst 1, 1) := by decide +kernel
theorem dX2_cell_18 : decode cX2_cell 18 = .ok (.goto 4, 3) := by decide +kernel
theorem dX2_cell_21 : decode cX2_cell 21 = .ok (.iconst 0, 1) := by decide +kernel
theorem dX2_cell_22 : decode cX2_cell 22 = .ok (.istore 5, 2) := by decide +kernel
theorem dX2_cell_24 : decode cX2_cell 24 = .ok (.iload 5, 2) := by decide +kernel
theorem dX2_cell_26 : decode cX2_cell 26 = .ok (.ifCond .eq 29, 3) := by decide +kernel
theorem dX2_cell_29 : decode cX2_cell 29 = .ok (.iload_n 3, 1) := by decide +kernel
theorem dX2_cell_30 : decode cX2_cell 30 = .ok (.invokestatic 72, 3) := by decide +kernel
theorem dX2_cell_33 : decode cX2_cell 33 = .ok (.ifCond .eq 22, 3) := by decide +kernel
theorem dX2_cell_36 : decode cX2_cell 36 = .ok (.iload 4, 2) := by decide +kernel
theorem dX2_cell_38 : decode cX2_cell 38 = .ok (.invokestatic 72, 3) := by decide +kernel
theorem dX2_cell_41 : decode cX2_cell 41 = .ok (.ifCond .eq 14, 3) := by decide +kernel
theorem dX2_cell_44 : decode cX2_cell 44 = .ok (.aload_n 0, 1) := by decide +kernel
theorem dX2_cell_45 : decode cX2_cell 45 = .ok (.getfield 12, 3) := by decide +kernel
theorem dX2_cell_48 : decode cX2_cell 48 = .ok (.getfield 76, 3) := by decide +kernel
theorem dX2_cell_51 : decode cX2_cell 51 = .ok (.iconst 4, 1) := by decide +kernel
theorem dX2_cell_52 : decode cX2_cell 52 = .ok (.if_icmp .lt 5, 3) := by decide +kernel
theorem dX2_cell_55 : decode cX2_cell 55 = .ok (.iconst (-1), 1) := by decide +kernel
theorem dX2_cell_56 : decode cX2_cell 56 = .ok (.ireturn, 1) := by decide +kernel
theorem dX2_cell_57 : decode cX2_cell 57 = .ok (.aload_n 0, 1) := by decide +kernel
theorem dX2_cell_58 : decode cX2_cell 58 = .ok (.getfield 12, 3) := by decide +kernel
theorem dX2_cell_61 : decode cX2_cell 61 = .ok (.getfield 76, 3) := by decide +kernel
theorem dX2_cell_64 : decode cX2_cell 64 = .ok (.istore 6, 2) := by decide +kernel
theorem dX2_cell_66 : decode cX2_cell 66 = .ok (.aload_n 0, 1) := by decide +kernel
theorem dX2_cell_67 : decode cX2_cell 67 = .ok (.getfield 12, 3) := by decide +kernel
theorem dX2_cell_70 : decode cX2_cell 70 = .ok (.getfield 79, 3) := by decide +kernel
theorem dX2_cell_73 : decode cX2_cell 73 = .ok (.iload 6, 2) := by decide +kernel
theorem dX2_cell_75 : decode cX2_cell 75 = .ok (.iload_n 1, 1) := by decide +kernel
theorem dX2_cell_76 : decode cX2_cell 76 = .ok (.iastore, 1) := by decide +kernel
theorem dX2_cell_77 : decode cX2_cell 77 = .ok (.aload_n 0, 1) := by decide +kernel
theorem dX2_cell_78 : decode cX2_cell 78 = .ok (.getfield 12, 3) := by decide +kernel
theorem dX2_cell_81 : decode cX2_cell 81 = .ok (.getfield 82, 3) := by decide +kernel
theorem dX2_cell_84 : decode cX2_cell 84 = .ok (.iload 6, 2) := by decide +kernel
theorem dX2_cell_86 : decode cX2_cell 86 = .ok (.iload_n 2, 1) := by decide +kernel
theorem dX2_cell_87 : decode cX2_cell 87 = .ok (.iastore, 1) := by decide +kernel
theorem dX2_cell_88 : decode cX2_cell 88 = .ok (.aload_n 0, 1) := by decide +kernel
theorem dX2_cell_89 : decode cX2_cell 89 = .ok (.getfield 12, 3) := by decide +kernel
theorem dX2_cell_92 : decode cX2_cell 92 = .ok (.getfield 85, 3) := by decide +kernel
theorem dX2_cell_95 : decode cX2_cell 95 = .ok (.iload 6, 2) := by decide +kernel
theorem dX2_cell_97 : decode cX2_cell 97 = .ok (.iload_n 3, 1) := by decide +kernel
theorem dX2_cell_98 : decode cX2_cell 98 = .ok (.iastore, 1) := by decide +kernel
theorem dX2_cell_99 : decode cX2_cell 99 = .ok (.aload_n 0, 1) := by decide +kernel
theorem dX2_cell_100 : decode cX2_cell 100 = .ok (.getfield 12, 3) := by decide +kernel
theorem dX2_cell_103 : decode cX2_cell 103 = .ok (.getfield 88, 3) := by decide +kernel
theorem dX2_cell_106 : decode cX2_cell 106 = .ok (.iload 6, 2) := by decide +kernel
theorem dX2_cell_108 : decode cX2_cell 108 = .ok (.iload 4, 2) := by decide +kernel
theorem dX2_cell_110 : decode cX2_cell 110 = .ok (.iastore, 1) := by decide +kernel
theorem dX2_cell_111 : decode cX2_cell 111 = .ok (.aload_n 0, 1) := by decide +kernel
theorem dX2_cell_112 : decode cX2_cell 112 = .ok (.getfield 12, 3) := by decide +kernel
theorem dX2_cell_115 : decode cX2_cell 115 = .ok (.iload 6, 2) := by decide +kernel
theorem dX2_cell_117 : decode cX2_cell 117 = .ok (.iconst 1, 1) := by decide +kernel
theorem dX2_cell_118 : decode cX2_cell 118 = .ok (.iadd, 1) := by decide +kernel
theorem dX2_cell_119 : decode cX2_cell 119 = .ok (.putfield 76, 3) := by decide +kernel
theorem dX2_cell_122 : decode cX2_cell 122 = .ok (.aload_n 0, 1) := by decide +kernel
theorem dX2_cell_123 : decode cX2_cell 123 = .ok (.invokevirtual 91, 3) := by decide +kernel
theorem dX2_cell_126 : decode cX2_cell 126 = .ok (.iload 6, 2) := by decide +kernel
theorem dX2_cell_128 : decode cX2_cell 128 = .ok (.ireturn, 1) := by decide +kernel
set_option maxRecDepth 20000 in
theorem ggX2_link_X2_isCell : GoodIn wsX2_link wsX2_isCell := goodIn_r _ [13, 1, 14, 38, 39, 40, 41, 42, 43, 44, 45, 46, 47, 48, 49, 50, 51, 52, 53, 54, 55, 56, 57, 58, 59, 60, 61, 62, 63, 64, 65, 66] (by decide +kernel) (by decide +kernel)
set_option maxRecDepth 20000 in
theorem gX2_link_X2_isCell : GoodIn wsX2_link (wsV RX2 94 RX2 yX2_isCell wsX2_isCell) := goodIn_app (goodIn_of _ (by decide +kernel)) ggX2_link_X2_isCell
set_option maxRecDepth 20000 in
theorem ggX2_link_X2_isAct : GoodIn wsX2_link wsX2_isAct := goodIn_r _ [17] (by decide +kernel) (by decide +kernel)
set_option maxRecDepth 20000 in
theorem gX2_link_X2_isAct : GoodIn wsX2_link (va_wsS RX2 97 yX2_isAct wsX2_isAct) := goodIn_app (goodIn_of _ (by decide +kernel)) ggX2_link_X2_isAct
set_option maxRecDepth 20000 in
theorem ggX2_link_X2_startAgain : GoodIn wsX2_link wsX2_startAgain := goodIn_r _ [21, 22, 1, 23, 24, 25, 26, 27, 28, 29, 30, 31, 32, 33, 34, 35, 36, 37, 38, 39, 40, 41, 42, 43, 44, 45, 46, 47, 48, 49, 50, 51, 52, 53, 54, 67, 68, 69, 70, 71, 72, 73, 74, 75, 76, 55, 56, 57, 58, 59, 60, 61, 62, 63, 64, 65, 66] (by decide +kernel) (by decide +kernel)
set_option maxRecDepth 20000 in
theorem gX2_link_X2_startAgain : GoodIn wsX2_link (wsV RX2 91 RX2 yX2_startAgain wsX2_startAgain) := goodIn_app (goodIn_of _ (by decide +kernel)) ggX2_link_X2_startAgain
theorem dX2_link_0 : decode cX2_link 0 = .ok (.aload_n 0, 1) := by decide +kernel
theorem dX2_link_1 : decode cX2_link 1 = .ok (.iload_n 1, 1) := by decide +kernel
theorem dX2_link_2 : decode cX2_link 2 = .ok (.invokevirtual 94, 3) := by decide +kernel
theorem dX2_link_5 : decode cX2_link 5 = .ok (.ifCond .eq 32, 3) := by decide +kernel
theorem dX2_link_8 : decode cX2_link 8 = .ok (.aload_n 0, 1) := by decide +kernel
theorem dX2_link_9 : decode cX2_link 9 = .ok (.iload 4, 2) := by decide +kernel
theorem dX2_link_11 : decode cX2_link 11 = .ok (.invokevirtual 94, 3) := by decide +kernel
theorem dX2_link_14 : decode cX2_link 14 = .ok (.ifCond .eq 23, 3) := by decide +kernel
theorem dX2_link_17 : decode cX2_link 17 = .ok (.iload_n 2, 1) := by decide +kernel
theorem dX2_link_18 : decode cX2_link 18 = .ok (.ifCond .eq 8, 3) := by decide +kernel
theorem dX2_link_21 : decode cX2_link 21 = .ok (.iload_n 2, 1) := by decide +kernel
theorem dX2_link_22 : decode cX2_link 22 = .ok (.iconst 1, 1) := by decide +kernel
theorem dX2_link_23 : decode cX2_link 23 = .ok (.if_icmp .ne 14, 3) := by decide +kernel
theorem dX2_link_26 : decode cX2_link 26 = .ok (.iload_n 3, 1) := by decide +kernel
theorem dX2_link_27 : decode cX2_link 27 = .ok (.iconst 1, 1) := by decide +kernel
theorem dX2_link_28 : decode cX2_link 28 = .ok (.if_icmp .lt 9, 3) := by decide +kernel
theorem dX2_link_31 : decode cX2_link 31 = .ok (.iload_n 3, 1) := by decide +kernel
theorem dX2_link_32 : decode cX2_link 32 = .ok (.bipush 9, 2) := by decide +kernel
theorem dX2_link_34 : decode cX2_link 34 = .ok (.if_icmp .le 5, 3) := by decide +kernel
theorem dX2_link_37 : decode cX2_link 37 = .ok (.iconst (-1), 1) := by decide +kernel
theorem dX2_link_38 : decode cX2_link 38 = .ok (.ireturn, 1) := by decide +kernel
theorem dX2_link_39 : decode cX2_link 39 = .ok (.iload 5, 2) := by decide +kernel
theorem dX2_link_41 : decode cX2_link 41 = .ok (.iload 6, 2) := by decide +kernel
theorem dX2_link_43 : decode cX2_link 43 = .ok (.invokestatic 97, 3) := by decide +kernel
theorem dX2_link_46 : decode cX2_link 46 = .ok (.ifCond .eq 15, 3) := by decide +kernel
theorem dX2_link_49 : decode cX2_link 49 = .ok (.aload_n 0, 1) := by decide +kernel
theorem dX2_link_50 : decode cX2_link 50 = .ok (.getfield 12, 3) := by decide +kernel
theorem dX2_link_53 : decode cX2_link 53 = .ok (.getfield 101, 3) := by decide +kernel
theorem dX2_link_56 : decode cX2_link 56 = .ok (.bipush 8, 2) := by decide +kernel
theorem dX2_link_58 : decode cX2_link 58 = .ok (.if_icmp .lt 5, 3) := by decide +kernel
theorem dX2_link_61 : decode cX2_link 61 = .ok (.iconst (-1), 1) := by decide +kernel
theorem dX2_link_62 : decode cX2_link 62 = .ok (.ireturn, 1) := by decide +kernel
theorem dX2_link_63 : decode cX2_link 63 = .ok (.aload_n 0, 1) := by decide +kernel
theorem dX2_link_64 : decode cX2_link 64 = .ok (.getfield 12, 3) := by decide +kernel
theorem dX2_link_67 : decode cX2_link 67 = .ok (.getfield 101, 3) := by decide +kernel
theorem dX2_link_70 : decode cX2_link 70 = .ok (.istore 7, 2) := by decide +kernel
theorem dX2_link_72 : decode cX2_link 72 = .ok (.aload_n 0, 1) := by decide +kernel
theorem dX2_link_73 : decode cX2_link 73 = .ok (.getfield 12, 3) := by decide +kernel
theorem dX2_link_76 : decode cX2_link 76 = .ok (.getfield 104, 3) := by decide +kernel
theorem dX2_link_79 : decode cX2_link 79 = .ok (.iload 7, 2) := by decide +kernel
theorem dX2_link_81 : decode cX2_link 81 = .ok (.iload_n 1, 1) := by decide +kernel
theorem dX2_link_82 : decode cX2_link 82 = .ok (.iastore, 1) := by decide +kernel
theorem dX2_link_83 : decode cX2_link 83 = .ok (.aload_n 0, 1) := by decide +kernel
theorem dX2_link_84 : decode cX2_link 84 = .ok (.getfield 12, 3) := by decide +kernel
theorem dX2_link_87 : decode cX2_link 87 = .ok (.getfield 107, 3) := by decide +kernel
theorem dX2_link_90 : decode cX2_link 90 = .ok (.iload 7, 2) := by decide +kernel
theorem dX2_link_92 : decode cX2_link 92 = .ok (.iload_n 2, 1) := by decide +kernel
theorem dX2_link_93 : decode cX2_link 93 = .ok (.iastore, 1) := by decide +kernel
theorem dX2_link_94 : decode cX2_link 94 = .ok (.aload_n 0, 1) := by decide +kernel
theorem dX2_link_95 : decode cX2_link 95 = .ok (.getfield 12, 3) := by decide +kernel
theorem dX2_link_98 : decode cX2_link 98 = .ok (.getfield 110, 3) := by decide +kernel
theorem dX2_link_101 : decode cX2_link 101 = .ok (.iload 7, 2) := by decide +kernel
theorem dX2_link_103 : decode cX2_link 103 = .ok (.iload_n 3, 1) := by decide +kernel
theorem dX2_link_104 : decode cX2_link 104 = .ok (.iastore, 1) := by decide +kernel
theorem dX2_link_105 : decode cX2_link 105 = .ok (.aload_n 0, 1) := by decide +kernel
theorem dX2_link_106 : decode cX2_link 106 = .ok (.getfield 12, 3) := by decide +kernel
theorem dX2_link_109 : decode cX2_link 109 = .ok (.getfield 113, 3) := by decide +kernel
theorem dX2_link_112 : decode cX2_link 112 = .ok (.iload 7, 2) := by decide +kernel
theorem dX2_link_114 : decode cX2_link 114 = .ok (.iload 4, 2) := by decide +kernel
theorem dX2_link_116 : decode cX2_link 116 = .ok (.iastore, 1) := by decide +kernel
theorem dX2_link_117 : decode cX2_link 117 = .ok (.aload_n 0, 1) := by decide +kernel
theorem dX2_link_118 : decode cX2_link 118 = .ok (.getfield 12, 3) := by decide +kernel
theorem dX2_link_121 : decode cX2_link 121 = .ok (.getfield 116, 3) := by decide +kernel
theorem dX2_link_124 : decode cX2_link 124 = .ok (.iload 7, 2) := by decide +kernel
theorem dX2_link_126 : decode cX2_link 126 = .ok (.iload 5, 2) := by decide +kernel
theorem dX2_link_128 : decode cX2_link 128 = .ok (.iastore, 1) := by decide +kernel
theorem dX2_link_129 : decode cX2_link 129 = .ok (.aload_n 0, 1) := by decide +kernel
theorem dX2_link_130 : decode cX2_link 130 = .ok (.getfield 12, 3) := by decide +kernel
theorem dX2_link_133 : decode cX2_link 133 = .ok (.getfield 119, 3) := by decide +kernel
theorem dX2_link_136 : decode cX2_link 136 = .ok (.iload 7, 2) := by decide +kernel
theorem dX2_link_138 : decode cX2_link 138 = .ok (.iload 6, 2) := by decide +kernel
theorem dX2_link_140 : decode cX2_link 140 = .ok (.iastore, 1) := by decide +kernel
theorem dX2_link_141 : decode cX2_link 141 = .ok (.aload_n 0, 1) := by decide +kernel
theorem dX2_link_142 : decode cX2_link 142 = .ok (.getfield 12, 3) := by decide +kernel
theorem dX2_link_145 : decode cX2_link 145 = .ok (.iload 7, 2) := by decide +kernel
theorem dX2_link_147 : decode cX2_link 147 = .ok (.iconst 1, 1) := by decide +kernel
theorem dX2_link_148 : decode cX2_link 148 = .ok (.iadd, 1) := by decide +kernel
theorem dX2_link_149 : decode cX2_link 149 = .ok (.putfield 101, 3) := by decide +kernel
theorem dX2_link_152 : decode cX2_link 152 = .ok (.aload_n 0, 1) := by decide +kernel
theorem dX2_link_153 : decode cX2_link 153 = .ok (.invokevirtual 91, 3) := by decide +kernel
theorem dX2_link_156 : decode cX2_link 156 = .ok (.iload 7, 2) := by decide +kernel
theorem dX2_link_158 : decode cX2_link 158 = .ok (.ireturn, 1) := by decide +kernel
set_option maxRecDepth 20000 in
theorem ggX2_clear_X2_startAgain : GoodIn wsX2_clear wsX2_startAgain := goodIn_r _ [8, 9, 1, 10, 11, 12, 13, 14, 15, 16, 17, 18, 19, 20, 21, 22, 23, 24, 25, 26, 27, 28, 29, 30, 31, 32, 33, 34, 35, 36, 37, 38, 39, 40, 41, 54, 55, 56, 57, 58, 59, 60, 61, 62, 63, 42, 43, 44, 45, 46, 47, 48, 49, 50, 51, 52, 53] (by decide +kernel) (by decide +kernel)
set_option maxRecDepth 20000 in
theorem gX2_clear_X2_startAgain : GoodIn wsX2_clear (wsV RX2 91 RX2 yX2_startAgain wsX2_startAgain) := goodIn_app (goodIn_of _ (by decide +kernel)) ggX2_clear_X2_startAgain
theorem dX2_clear_0 : decode cX2_clear 0 = .ok (.aload_n 0, 1) := by decide +kernel
theorem dX2_clear_1 : decode cX2_clear 1 = .ok (.getfield 12, 3) := by decide +kernel
theorem dX2_clear_4 : decode cX2_clear 4 = .ok (.getfield 76, 3) := by decide +kernel
theorem dX2_clear_7 : decode cX2_clear 7 = .ok (.istore_n 1, 1) := by decide +kernel
theorem dX2_clear_8 : decode cX2_clear 8 = .ok (.aload_n 0, 1) := by decide +kernel
theorem dX2_clear_9 : decode cX2_clear 9 = .ok (.getfield 12, 3) := by decide +kernel
theorem dX2_clear_12 : decode cX2_clear 12 = .ok (.iconst 0, 1) := by decide +kernel
theorem dX2_clear_13 : decode cX2_clear 13 = .ok (.putfield 76, 3) := by decide +kernel
theorem dX2_clear_16 : decode cX2_clear 16 = .ok (.aload_n 0, 1) := by decide +kernel
theorem dX2_clear_17 : decode cX2_clear 17 = .ok (.getfield 12, 3) := by decide +kernel
theorem dX2_clear_20 : decode cX2_clear 20 = .ok (.iconst 0, 1) := by decide +kernel
theorem dX2_clear_21 : decode cX2_clear 21 = .ok (.putfield 101, 3) := by decide +kernel
theorem dX2_clear_24 : decode cX2_clear 24 = .ok (.aload_n 0, 1) := by decide +kernel
theorem dX2_clear_25 : decode cX2_clear 25 = .ok (.invokevirtual 91, 3) := by decide +kernel
theorem dX2_clear_28 : decode cX2_clear 28 = .ok (.iload_n 1, 1) := by decide +kernel
theorem dX2_clear_29 : decode cX2_clear 29 = .ok (.ireturn, 1) := by decide +kernel
set_option maxRecDepth 20000 in
theorem ggX2_reset_X2_startAgain : GoodIn wsX2_reset wsX2_startAgain := goodIn_r _ [6, 7, 8, 1, 9, 10, 11, 12, 13, 14, 15, 16, 17, 18, 19, 20, 21, 22, 23, 24, 25, 26, 27, 28, 29, 30, 31, 32, 33, 34, 35, 36, 37, 38, 39, 40, 41, 42, 43, 44, 45, 46, 47, 48, 49, 50, 51, 52, 53, 54, 55, 56, 57, 58, 59, 60, 61] (by decide +kernel) (by decide +kernel)
set_option maxRecDepth 20000 in
theorem gX2_reset_X2_startAgain : GoodIn wsX2_reset (wsV RX2 91 RX2 yX2_startAgain wsX2_startAgain) := goodIn_app (goodIn_of _ (by decide +kernel)) ggX2_reset_X2_startAgain
theorem dX2_reset_0 : decode cX2_reset 0 = .ok (.aload_n 0, 1) := by decide +kernel
theorem dX2_reset_1 : decode cX2_reset 1 = .ok (.getfield 26, 3) := by decide +kernel
theorem dX2_reset_4 : decode cX2_reset 4 = .ok (.istore_n 1, 1) := by decide +kernel
theorem dX2_reset_5 : decode cX2_reset 5 = .ok (.aload_n 0, 1) := by decide +kernel
theorem dX2_reset_6 : decode cX2_reset 6 = .ok (.invokevirtual 91, 3) := by decide +kernel
theorem dX2_reset_9 : decode cX2_reset 9 = .ok (.iload_n 1, 1) := by decide +kernel
theorem dX2_reset_10 : decode cX2_reset 10 = .ok (.ireturn, 1) := by decide +kernel
set_option maxRecDepth 20000 in
theorem ggX2_set_X2_isCell : GoodIn wsX2_set wsX2_isCell := goodIn_r _ [6, 1, 7, 38, 39, 40, 41, 42, 43, 44, 45, 46, 47, 48, 49, 50, 51, 52, 53, 54, 55, 56, 57, 58, 59, 60, 61, 62, 63, 64, 65, 66] (by decide +kernel) (by decide +kernel)
set_option maxRecDepth 20000 in
theorem gX2_set_X2_isCell : GoodIn wsX2_set (wsV RX2 94 RX2 yX2_isCell wsX2_isCell) := goodIn_app (goodIn_of _ (by decide +kernel)) ggX2_set_X2_isCell
set_option maxRecDepth 20000 in
theorem ggX2_set_X2_isRate : GoodIn wsX2_set wsX2_isRate := goodIn_r _ [10] (by decide +kernel) (by decide +kernel)
set_option maxRecDepth 20000 in
theorem gX2_set_X2_isRate : GoodIn wsX2_set (va_wsS RX2 72 yX2_isRate wsX2_isRate) := goodIn_app (goodIn_of _ (by decide +kernel)) ggX2_set_X2_isRate
set_option maxRecDepth 20000 in
theorem ggX2_set_X0_ratesOf : GoodIn wsX2_set wsX0_ratesOf := goodIn_r _ [15, 16, 17, 55, 56, 57, 58, 59, 60, 61, 62, 63, 64, 65, 66] (by decide +kernel) (by decide +kernel)
set_option maxRecDepth 20000 in
theorem gX2_set_X0_ratesOf : GoodIn wsX2_set (wsV RX2 122 RX0 yX0_ratesOf wsX0_ratesOf) := goodIn_app (goodIn_of _ (by decide +kernel)) ggX2_set_X0_ratesOf
set_option maxRecDepth 20000 in
theorem ggX2_set_X2_startAgain : GoodIn wsX2_set wsX2_startAgain := goodIn_r _ [21, 22, 1, 23, 24, 25, 26, 27, 28, 29, 30, 31, 32, 33, 34, 35, 36, 37, 38, 39, 40, 41, 42, 43, 44, 45, 46, 47, 48, 49, 50, 51, 52, 53, 54, 67, 68, 69, 70, 71, 72, 73, 74, 75, 76, 55, 56, 57, 58, 59, 60, 61, 62, 63, 64, 65, 66] (by decide +kernel) (by decide +kernel)
set_option maxRecDepth 20000 in
theorem gX2_set_X2_startAgain : GoodIn wsX2_set (wsV RX2 91 RX2 yX2_startAgain wsX2_startAgain) := goodIn_app (goodIn_of _ (by decide +kernel)) ggX2_set_X2_startAgain
theorem dX2_set_0 : decode cX2_set 0 = .ok (.aload_n 0, 1) := by decide +kernel
theorem dX2_set_1 : decode cX2_set 1 = .ok (.iload_n 1, 1) := by decide +kernel
theorem dX2_set_2 : decode cX2_set 2 = .ok (.invokevirtual 94, 3) := by decide +kernel
theorem dX2_set_5 : decode cX2_set 5 = .ok (.ifCond .eq 19, 3) := by decide +kernel
theorem dX2_set_8 : decode cX2_set 8 = .ok (.iload_n 2, 1) := by decide +kernel
theorem dX2_set_9 : decode cX2_set 9 = .ok (.ifCond .eq 8, 3) := by decide +kernel
theorem dX2_set_12 : decode cX2_set 12 = .ok (.iload_n 2, 1) := by decide +kernel
theorem dX2_set_13 : decode cX2_set 13 = .ok (.iconst 1, 1) := by decide +kernel
theorem dX2_set_14 : decode cX2_set 14 = .ok (.if_icmp .ne 10, 3) := by decide +kernel
theorem dX2_set_17 : decode cX2_set 17 = .ok (.iload_n 3, 1) := by decide +kernel
theorem dX2_set_18 : decode cX2_set 18 = .ok (.invokestatic 72, 3) := by decide +kernel
theorem dX2_set_21 : decode cX2_set 21 = .ok (.ifCond .ne 5, 3) := by decide +kernel
theorem dX2_set_24 : decode cX2_set 24 = .ok (.iconst (-1), 1) := by decide +kernel
theorem dX2_set_25 : decode cX2_set 25 = .ok (.ireturn, 1) := by decide +kernel
theorem dX2_set_26 : decode cX2_set 26 = .ok (.aload_n 0, 1) := by decide +kernel
theorem dX2_set_27 : decode cX2_set 27 = .ok (.getfield 12, 3) := by decide +kernel
theorem dX2_set_30 : decode cX2_set 30 = .ok (.iload_n 2, 1) := by decide +kernel
theorem dX2_set_31 : decode cX2_set 31 = .ok (.invokevirtual 122, 3) := by decide +kernel
theorem dX2_set_34 : decode cX2_set 34 = .ok (.astore 4, 2) := by decide +kernel
theorem dX2_set_36 : decode cX2_set 36 = .ok (.aload 4, 2) := by decide +kernel
theorem dX2_set_38 : decode cX2_set 38 = .ok (.iload_n 1, 1) := by decide +kernel
theorem dX2_set_39 : decode cX2_set 39 = .ok (.iaload, 1) := by decide +kernel
theorem dX2_set_40 : decode cX2_set 40 = .ok (.istore 5, 2) := by decide +kernel
theorem dX2_set_42 : decode cX2_set 42 = .ok (.aload 4, 2) := by decide +kernel
theorem dX2_set_44 : decode cX2_set 44 = .ok (.iload_n 1, 1) := by decide +kernel
theorem dX2_set_45 : decode cX2_set 45 = .ok (.iload_n 3, 1) := by decide +kernel
theorem dX2_set_46 : decode cX2_set 46 = .ok (.iastore, 1) := by decide +kernel
theorem dX2_set_47 : decode cX2_set 47 = .ok (.aload_n 0, 1) := by decide +kernel
theorem dX2_set_48 : decode cX2_set 48 = .ok (.invokevirtual 91, 3) := by decide +kernel
theorem dX2_set_51 : decode cX2_set 51 = .ok (.iload 5, 2) := by decide +kernel
theorem dX2_set_53 : decode cX2_set 53 = .ok (.ireturn, 1) := by decide +kernel
set_option maxRecDepth 20000 in
theorem ggX2_run_X1_copyFrom : GoodIn wsX2_run wsX1_copyFrom := goodIn_r _ [8, 9, 10, 11, 12, 13, 14, 103, 104, 105, 106, 107, 108, 109, 110, 111, 112] (by decide +kernel) (by decide +kernel)
set_option maxRecDepth 20000 in
theorem gX2_run_X1_copyFrom : GoodIn wsX2_run (wsV RX2 126 RX1 yX1_copyFrom wsX1_copyFrom) := goodIn_app (goodIn_of _ (by decide +kernel)) ggX2_run_X1_copyFrom
set_option maxRecDepth 20000 in
theorem ggX2_run_X1_advance : GoodIn wsX2_run wsX1_advance := goodIn_r _ [18, 19, 13, 20, 21, 22, 23, 24, 7, 25, 26, 12, 11, 27, 28, 29, 30, 31, 32, 33, 34, 35, 9, 10, 36, 37, 38, 39, 40, 41, 42, 43, 44, 45, 14, 46, 47, 48, 49, 50, 51, 52, 53, 54, 55, 56, 57, 58, 59, 60, 61, 62, 63, 64, 65, 66, 113, 114, 115, 116, 117, 118, 119, 120, 121, 122, 123, 124, 103, 104, 105, 106, 107, 108, 109, 110, 111, 112] (by decide +kernel) (by decide +kernel)
set_option maxRecDepth 20000 in
theorem gX2_run_X1_advance : GoodIn wsX2_run (wsV RX2 130 RX1 yX1_advance wsX1_advance) := goodIn_app (goodIn_of _ (by decide +kernel)) ggX2_run_X1_advance
set_option maxRecDepth 20000 in
theorem ggX2_run_X2_noteEvent : GoodIn wsX2_run wsX2_noteEvent := goodIn_r _ [70, 71, 72, 2, 73, 74, 75, 76, 77, 78, 37, 79, 80, 81, 82, 7, 83, 9, 10, 20, 21, 84, 85, 86, 87, 88, 89, 90, 91, 92, 93, 94, 95, 96, 97, 98, 99, 100, 101, 102, 103, 104, 105, 106, 107, 108, 109, 110, 111, 112] (by decide +kernel) (by decide +kernel)
set_option maxRecDepth 20000 in
theorem gX2_run_X2_noteEvent : GoodIn wsX2_run (wsV RX2 134 RX2 yX2_noteEvent wsX2_noteEvent) := goodIn_app (goodIn_of _ (by decide +kernel)) ggX2_run_X2_noteEvent
theorem dX2_run_0 : decode cX2_run 0 = .ok (.iload_n 1, 1) := by decide +kernel
theorem dX2_run_1 : decode cX2_run 1 = .ok (.ifCond .lt 10, 3) := by decide +kernel
theorem dX2_run_4 : decode cX2_run 4 = .ok (.iload_n 1, 1) := by decide +kernel
theorem dX2_run_5 : decode cX2_run 5 = .ok (.sipush 500, 3) := by decide +kernel
theorem dX2_run_8 : decode cX2_run 8 = .ok (.if_icmp .le 5, 3) := by decide +kernel
theorem dX2_run_11 : decode cX2_run 11 = .ok (.iconst (-1), 1) := by decide +kernel
theorem dX2_run_12 : decode cX2_run 12 = .ok (.ireturn, 1) := by decide +kernel
theorem dX2_run_13 : decode cX2_run 13 = .ok (.iconst 0, 1) := by decide +kernel
theorem dX2_run_14 : decode cX2_run 14 = .ok (.istore_n 2, 1) := by decide +kernel
theorem dX2_run_15 : decode cX2_run 15 = .ok (.iload_n 2, 1) := by decide +kernel
theorem dX2_run_16 : decode cX2_run 16 = .ok (.iload_n 1, 1) := by decide +kernel
theorem dX2_run_17 : decode cX2_run 17 = .ok (.if_icmp .ge 58, 3) := by decide +kernel
theorem dX2_run_20 : decode cX2_run 20 = .ok (.aload_n 0, 1) := by decide +kernel
theorem dX2_run_21 : decode cX2_run 21 = .ok (.getfield 23, 3) := by decide +kernel
theorem dX2_run_24 : decode cX2_run 24 = .ok (.aload_n 0, 1) := by decide +kernel
theorem dX2_run_25 : decode cX2_run 25 = .ok (.getfield 19, 3) := by decide +kernel
theorem dX2_run_28 : decode cX2_run 28 = .ok (.invokevirtual 126, 3) := by decide +kernel
theorem dX2_run_31 : decode cX2_run 31 = .ok (.aload_n 0, 1) := by decide +kernel
theorem dX2_run_32 : decode cX2_run 32 = .ok (.getfield 23, 3) := by decide +kernel
theorem dX2_run_35 : decode cX2_run 35 = .ok (.aload_n 0, 1) := by decide +kernel
theorem dX2_run_36 : decode cX2_run 36 = .ok (.getfield 12, 3) := by decide +kernel
theorem dX2_run_39 : decode cX2_run 39 = .ok (.invokevirtual 130, 3) := by decide +kernel
theorem dX2_run_42 : decode cX2_run 42 = .ok (.ifCond .ne 5, 3) := by decide +kernel
theorem dX2_run_45 : decode cX2_run 45 = .ok (.iload_n 2, 1) := by decide +kernel
theorem dX2_run_46 : decode cX2_run 46 = .ok (.ireturn, 1) := by decide +kernel
theorem dX2_run_47 : decode cX2_run 47 = .ok (.aload_n 0, 1) := by decide +kernel
theorem dX2_run_48 : decode cX2_run 48 = .ok (.getfield 19, 3) := by decide +kernel
theorem dX2_run_51 : decode cX2_run 51 = .ok (.astore_n 3, 1) := by decide +kernel
theorem dX2_run_52 : decode cX2_run 52 = .ok (.aload_n 0, 1) := by decide +kernel
theorem dX2_run_53 : decode cX2_run 53 = .ok (.aload_n 0, 1) := by decide +kernel
theorem dX2_run_54 : decode cX2_run 54 = .ok (.getfield 23, 3) := by decide +kernel
theorem dX2_run_57 : decode cX2_run 57 = .ok (.putfield 19, 3) := by decide +kernel
theorem dX2_run_60 : decode cX2_run 60 = .ok (.aload_n 0, 1) := by decide +kernel
theorem dX2_run_61 : decode cX2_run 61 = .ok (.aload_n 3, 1) := by decide +kernel
theorem dX2_run_62 : decode cX2_run 62 = .ok (.putfield 23, 3) := by decide +kernel
theorem dX2_run_65 : decode cX2_run 65 = .ok (.aload_n 0, 1) := by decide +kernel
theorem dX2_run_66 : decode cX2_run 66 = .ok (.invokevirtual 134, 3) := by decide +kernel
theorem dX2_run_69 : decode cX2_run 69 = .ok (.iinc 2 1, 3) := by decide +kernel
theorem dX2_run_72 : decode cX2_run 72 = .ok (.goto (-57), 3) := by decide +kernel
theorem dX2_run_75 : decode cX2_run 75 = .ok (.iload_n 1, 1) := by decide +kernel
theorem dX2_run_76 : decode cX2_run 76 = .ok (.ireturn, 1) := by decide +kernel
set_option maxRecDepth 20000 in
theorem ggX2_count_X2_isNextSpent : GoodIn wsX2_count wsX2_isNextSpent := goodIn_r _ [14, 1, 2, 15, 5, 16, 17, 18, 19, 20, 21, 22, 23, 24, 25, 26, 27, 28, 29, 30, 31, 32, 33, 34, 35, 36, 37, 38, 39, 40, 41, 42, 43, 44, 45, 46, 47, 48, 13, 49, 50, 51, 52, 53, 54, 55, 56, 57, 58, 59, 60, 61, 62, 63, 64, 65, 66, 67, 68, 69, 70, 71, 72, 73, 74, 75, 76, 77, 78, 79, 80, 81, 82, 83, 84, 85, 86, 87, 88, 89, 90, 91, 92, 93, 94, 95, 96, 97, 98, 99, 100, 101, 102, 103, 104, 105, 106, 107, 108, 109, 110, 111, 112, 113, 114, 115, 116] (by decide +kernel) (by decide +kernel)
set_option maxRecDepth 20000 in
theorem gX2_count_X2_isNextSpent : GoodIn wsX2_count (wsV RX2 144 RX2 yX2_isNextSpent wsX2_isNextSpent) := goodIn_app (goodIn_of _ (by decide +kernel)) ggX2_count_X2_isNextSpent
theorem dX2_count_0 : decode cX2_count 0 = .ok (.iload_n 1, 1) := by decide +kernel
theorem dX2_count_1 : decode cX2_count 1 = .ok (.tableswitch 109 0 7 #[47, 55, 63, 68, 77, 86, 99, 104], 47) := by decide +kernel
theorem dX2_count_48 : decode cX2_count 48 = .ok (.aload_n 0, 1) := by decide +kernel
theorem dX2_count_49 : decode cX2_count 49 = .ok (.getfield 12, 3) := by decide +kernel
theorem dX2_count_52 : decode cX2_count 52 = .ok (.getfield 76, 3) := by decide +kernel
theorem dX2_count_55 : decode cX2_count 55 = .ok (.ireturn, 1) := by decide +kernel
theorem dX2_count_56 : decode cX2_count 56 = .ok (.aload_n 0, 1) := by decide +kernel
theorem dX2_count_57 : decode cX2_count 57 = .ok (.getfield 12, 3) := by decide +kernel
theorem dX2_count_60 : decode cX2_count 60 = .ok (.getfield 101, 3) := by decide +kernel
theorem dX2_count_63 : decode cX2_count 63 = .ok (.ireturn, 1) := by decide +kernel
theorem dX2_count_64 : decode cX2_count 64 = .ok (.aload_n 0, 1) := by decide +kernel
theorem dX2_count_65 : decode cX2_count 65 = .ok (.getfield 26, 3) := by decide +kernel
theorem dX2_count_68 : decode cX2_count 68 = .ok (.ireturn, 1) := by decide +kernel
theorem dX2_count_69 : decode cX2_count 69 = .ok (.aload_n 0, 1) := by decide +kernel
theorem dX2_count_70 : decode cX2_count 70 = .ok (.getfield 19, 3) := by decide +kernel
theorem dX2_count_73 : decode cX2_count 73 = .ok (.getfield 137, 3) := by decide +kernel
theorem dX2_count_76 : decode cX2_count 76 = .ok (.l2i, 1) := by decide +kernel
theorem dX2_count_77 : decode cX2_count 77 = .ok (.ireturn, 1) := by decide +kernel
theorem dX2_count_78 : decode cX2_count 78 = .ok (.aload_n 0, 1) := by decide +kernel
theorem dX2_count_79 : decode cX2_count 79 = .ok (.getfield 19, 3) := by decide +kernel
theorem dX2_count_82 : decode cX2_count 82 = .ok (.getfield 141, 3) := by decide +kernel
theorem dX2_count_85 : decode cX2_count 85 = .ok (.l2i, 1) := by decide +kernel
theorem dX2_count_86 : decode cX2_count 86 = .ok (.ireturn, 1) := by decide +kernel
theorem dX2_count_87 : decode cX2_count 87 = .ok (.aload_n 0, 1) := by decide +kernel
theorem dX2_count_88 : decode cX2_count 88 = .ok (.invokevirtual 144, 3) := by decide +kernel
theorem dX2_count_91 : decode cX2_count 91 = .ok (.ifCond .eq 7, 3) := by decide +kernel
theorem dX2_count_94 : decode cX2_count 94 = .ok (.iconst 1, 1) := by decide +kernel
theorem dX2_count_95 : decode cX2_count 95 = .ok (.goto 4, 3) := by decide +kernel
theorem dX2_count_98 : decode cX2_count 98 = .ok (.iconst 0, 1) := by decide +kernel
theorem dX2_count_99 : decode cX2_count 99 = .ok (.ireturn, 1) := by decide +kernel
theorem dX2_count_100 : decode cX2_count 100 = .ok (.aload_n 0, 1) := by decide +kernel
theorem dX2_count_101 : decode cX2_count 101 = .ok (.getfield 54, 3) := by decide +kernel
theorem dX2_count_104 : decode cX2_count 104 = .ok (.ireturn, 1) := by decide +kernel
theorem dX2_count_105 : decode cX2_count 105 = .ok (.aload_n 0, 1) := by decide +kernel
theorem dX2_count_106 : decode cX2_count 106 = .ok (.getfield 63, 3) := by decide +kernel
theorem dX2_count_109 : decode cX2_count 109 = .ok (.ireturn, 1) := by decide +kernel
theorem dX2_count_110 : decode cX2_count 110 = .ok (.iconst (-1), 1) := by decide +kernel
theorem dX2_count_111 : decode cX2_count 111 = .ok (.ireturn, 1) := by decide +kernel
set_option maxRecDepth 20000 in
theorem ggX2_of_X2_isCell : GoodIn wsX2_of wsX2_isCell := goodIn_r _ [13, 14, 15, 32, 33, 34, 35, 36, 37, 38, 39, 40, 41, 42, 43, 44, 45, 46, 47, 48, 59, 60, 61, 62, 63, 64, 65, 66, 67, 68, 69, 70] (by decide +kernel) (by decide +kernel)
set_option maxRecDepth 20000 in
theorem gX2_of_X2_isCell : GoodIn wsX2_of (wsV RX2 94 RX2 yX2_isCell wsX2_isCell) := goodIn_app (goodIn_of _ (by decide +kernel)) ggX2_of_X2_isCell
set_option maxRecDepth 20000 in
theorem ggX2_of_X2_beatTerm : GoodIn wsX2_of wsX2_beatTerm := goodIn_r _ [19, 14, 20, 21, 22, 23, 24, 25, 26, 27, 28, 29, 30, 12, 31, 32, 33, 34, 35, 36, 37, 38, 39, 40, 41, 42, 43, 44, 45, 46, 47, 48, 59, 60, 61, 62, 63, 64, 65, 66, 67, 68, 69, 70] (by decide +kernel) (by decide +kernel)
set_option maxRecDepth 20000 in
theorem gX2_of_X2_beatTerm : GoodIn wsX2_of (wsV RX2 165 RX2 yX2_beatTerm wsX2_beatTerm) := goodIn_app (goodIn_of _ (by decide +kernel)) ggX2_of_X2_beatTerm
theorem dX2_of_0 : decode cX2_of 0 = .ok (.aload_n 0, 1) := by decide +kernel
theorem dX2_of_1 : decode cX2_of 1 = .ok (.iload_n 1, 1) := by decide +kernel
theorem dX2_of_2 : decode cX2_of 2 = .ok (.invokevirtual 94, 3) := by decide +kernel
theorem dX2_of_5 : decode cX2_of 5 = .ok (.ifCond .ne 13, 3) := by decide +kernel
theorem dX2_of_8 : decode cX2_of 8 = .ok (.new 148, 3) := by decide +kernel
theorem dX2_of_11 : decode cX2_of 11 = .ok (.dup, 1) := by decide +kernel
theorem dX2_of_12 : decode cX2_of 12 = .ok (.ldc 150, 2) := by decide +kernel
theorem dX2_of_14 : decode cX2_of 14 = .ok (.invokespecial 152, 3) := by decide +kernel
theorem dX2_of_17 : decode cX2_of 17 = .ok (.athrow, 1) := by decide +kernel
theorem dX2_of_18 : decode cX2_of 18 = .ok (.iload_n 2, 1) := by decide +kernel
theorem dX2_of_19 : decode cX2_of 19 = .ok (.tableswitch 109 0 6 #[41, 52, 63, 81, 88, 95, 102], 41) := by decide +kernel
theorem dX2_of_60 : decode cX2_of 60 = .ok (.aload_n 0, 1) := by decide +kernel
theorem dX2_of_61 : decode cX2_of 61 = .ok (.getfield 19, 3) := by decide +kernel
theorem dX2_of_64 : decode cX2_of 64 = .ok (.getfield 155, 3) := by decide +kernel
theorem dX2_of_67 : decode cX2_of 67 = .ok (.iload_n 1, 1) := by decide +kernel
theorem dX2_of_68 : decode cX2_of 68 = .ok (.laload, 1) := by decide +kernel
theorem dX2_of_69 : decode cX2_of 69 = .ok (.l2i, 1) := by decide +kernel
theorem dX2_of_70 : decode cX2_of 70 = .ok (.ireturn, 1) := by decide +kernel
theorem dX2_of_71 : decode cX2_of 71 = .ok (.aload_n 0, 1) := by decide +kernel
theorem dX2_of_72 : decode cX2_of 72 = .ok (.getfield 19, 3) := by decide +kernel
theorem dX2_of_75 : decode cX2_of 75 = .ok (.getfield 158, 3) := by decide +kernel
theorem dX2_of_78 : decode cX2_of 78 = .ok (.iload_n 1, 1) := by decide +kernel
theorem dX2_of_79 : decode cX2_of 79 = .ok (.laload, 1) := by decide +kernel
theorem dX2_of_80 : decode cX2_of 80 = .ok (.l2i, 1) := by decide +kernel
theorem dX2_of_81 : decode cX2_of 81 = .ok (.ireturn, 1) := by decide +kernel
theorem dX2_of_82 : decode cX2_of 82 = .ok (.aload_n 0, 1) := by decide +kernel
theorem dX2_of_83 : decode cX2_of 83 = .ok (.getfield 19, 3) := by decide +kernel
theorem dX2_of_86 : decode cX2_of 86 = .ok (.getfield 161, 3) := by decide +kernel
theorem dX2_of_89 : decode cX2_of 89 = .ok (.iload_n 1, 1) := by decide +kernel
theorem dX2_of_90 : decode cX2_of 90 = .ok (.baload, 1) := by decide +kernel
theorem dX2_of_91 : decode cX2_of 91 = .ok (.ifCond .eq 7, 3) := by decide +kernel
theorem dX2_of_94 : decode cX2_of 94 = .ok (.iconst 1, 1) := by decide +kernel
theorem dX2_of_95 : decode cX2_of 95 = .ok (.goto 4, 3) := by decide +kernel
theorem dX2_of_98 : decode cX2_of 98 = .ok (.iconst 0, 1) := by decide +kernel
theorem dX2_of_99 : decode cX2_of 99 = .ok (.ireturn, 1) := by decide +kernel
theorem dX2_of_100 : decode cX2_of 100 = .ok (.aload_n 0, 1) := by decide +kernel
theorem dX2_of_101 : decode cX2_of 101 = .ok (.getfield 30, 3) := by decide +kernel
theorem dX2_of_104 : decode cX2_of 104 = .ok (.iload_n 1, 1) := by decide +kernel
theorem dX2_of_105 : decode cX2_of 105 = .ok (.iaload, 1) := by decide +kernel
theorem dX2_of_106 : decode cX2_of 106 = .ok (.ireturn, 1) := by decide +kernel
theorem dX2_of_107 : decode cX2_of 107 = .ok (.aload_n 0, 1) := by decide +kernel
theorem dX2_of_108 : decode cX2_of 108 = .ok (.getfield 34, 3) := by decide +kernel
theorem dX2_of_111 : decode cX2_of 111 = .ok (.iload_n 1, 1) := by decide +kernel
theorem dX2_of_112 : decode cX2_of 112 = .ok (.iaload, 1) := by decide +kernel
theorem dX2_of_113 : decode cX2_of 113 = .ok (.ireturn, 1) := by decide +kernel
theorem dX2_of_114 : decode cX2_of 114 = .ok (.aload_n 0, 1) := by decide +kernel
theorem dX2_of_115 : decode cX2_of 115 = .ok (.iload_n 1, 1) := by decide +kernel
theorem dX2_of_116 : decode cX2_of 116 = .ok (.iconst 1, 1) := by decide +kernel
theorem dX2_of_117 : decode cX2_of 117 = .ok (.invokevirtual 165, 3) := by decide +kernel
theorem dX2_of_120 : decode cX2_of 120 = .ok (.ireturn, 1) := by decide +kernel
theorem dX2_of_121 : decode cX2_of 121 = .ok (.aload_n 0, 1) := by decide +kernel
theorem dX2_of_122 : decode cX2_of 122 = .ok (.iload_n 1, 1) := by decide +kernel
theorem dX2_of_123 : decode cX2_of 123 = .ok (.iconst 0, 1) := by decide +kernel
theorem dX2_of_124 : decode cX2_of 124 = .ok (.invokevirtual 165, 3) := by decide +kernel
theorem dX2_of_127 : decode cX2_of 127 = .ok (.ireturn, 1) := by decide +kernel
theorem dX2_of_128 : decode cX2_of 128 = .ok (.new 148, 3) := by decide +kernel
theorem dX2_of_131 : decode cX2_of 131 = .ok (.dup, 1) := by decide +kernel
theorem dX2_of_132 : decode cX2_of 132 = .ok (.ldc 169, 2) := by decide +kernel
theorem dX2_of_134 : decode cX2_of 134 = .ok (.invokespecial 152, 3) := by decide +kernel
theorem dX2_of_137 : decode cX2_of 137 = .ok (.athrow, 1) := by decide +kernel
theorem dX2_counted_0 : decode cX2_counted 0 = .ok (.iload_n 1, 1) := by decide +kernel
theorem dX2_counted_1 : decode cX2_counted 1 = .ok (.ifCond .lt 26, 3) := by decide +kernel
theorem dX2_counted_4 : decode cX2_counted 4 = .ok (.iload_n 1, 1) := by decide +kernel
theorem dX2_counted_5 : decode cX2_counted 5 = .ok (.aload_n 0, 1) := by decide +kernel
theorem dX2_counted_6 : decode cX2_counted 6 = .ok (.getfield 12, 3) := by decide +kernel
theorem dX2_counted_9 : decode cX2_counted 9 = .ok (.getfield 101, 3) := by decide +kernel
theorem dX2_counted_12 : decode cX2_counted 12 = .ok (.if_icmp .ge 15, 3) := by decide +kernel
theorem dX2_counted_15 : decode cX2_counted 15 = .ok (.aload_n 0, 1) := by decide +kernel
theorem dX2_counted_16 : decode cX2_counted 16 = .ok (.getfield 19, 3) := by decide +kernel
theorem dX2_counted_19 : decode cX2_counted 19 = .ok (.getfield 171, 3) := by decide +kernel
theorem dX2_counted_22 : decode cX2_counted 22 = .ok (.iload_n 1, 1) := by decide +kernel
theorem dX2_counted_23 : decode cX2_counted 23 = .ok (.iaload, 1) := by decide +kernel
theorem dX2_counted_24 : decode cX2_counted 24 = .ok (.goto 4, 3) := by decide +kernel
theorem dX2_counted_27 : decode cX2_counted 27 = .ok (.iconst (-1), 1) := by decide +kernel
theorem dX2_counted_28 : decode cX2_counted 28 = .ok (.ireturn, 1) := by decide +kernel
set_option maxRecDepth 20000 in
theorem ggX2_event_X2_isKept : GoodIn wsX2_event wsX2_isKept := goodIn_r _ [6] (by decide +kernel) (by decide +kernel)
set_option maxRecDepth 20000 in
theorem gX2_event_X2_isKept : GoodIn wsX2_event (va_wsS RX2 174 yX2_isKept wsX2_isKept) := goodIn_app (goodIn_of _ (by decide +kernel)) ggX2_event_X2_isKept
set_option maxRecDepth 20000 in
theorem ggX2_event_X2_turnedIn : GoodIn wsX2_event wsX2_turnedIn := goodIn_r _ [9] (by decide +kernel) (by decide +kernel)
set_option maxRecDepth 20000 in
theorem gX2_event_X2_turnedIn : GoodIn wsX2_event (va_wsS RX2 177 yX2_turnedIn wsX2_turnedIn) := goodIn_app (goodIn_of _ (by decide +kernel)) ggX2_event_X2_turnedIn
set_option maxRecDepth 20000 in
theorem ggX2_event_X2_sideIn : GoodIn wsX2_event wsX2_sideIn := goodIn_r _ [12] (by decide +kernel) (by decide +kernel)
set_option maxRecDepth 20000 in
theorem gX2_event_X2_sideIn : GoodIn wsX2_event (va_wsS RX2 181 yX2_sideIn wsX2_sideIn) := goodIn_app (goodIn_of _ (by decide +kernel)) ggX2_event_X2_sideIn
set_option maxRecDepth 20000 in
theorem ggX2_event_X2_timeNumIn : GoodIn wsX2_event wsX2_timeNumIn := goodIn_r _ [15] (by decide +kernel) (by decide +kernel)
set_option maxRecDepth 20000 in
theorem gX2_event_X2_timeNumIn : GoodIn wsX2_event (va_wsS RX2 184 yX2_timeNumIn wsX2_timeNumIn) := goodIn_app (goodIn_of _ (by decide +kernel)) ggX2_event_X2_timeNumIn
set_option maxRecDepth 20000 in
theorem ggX2_event_X2_timeDenIn : GoodIn wsX2_event wsX2_timeDenIn := goodIn_r _ [18, 19] (by decide +kernel) (by decide +kernel)
set_option maxRecDepth 20000 in
theorem gX2_event_X2_timeDenIn : GoodIn wsX2_event (va_wsS RX2 188 yX2_timeDenIn wsX2_timeDenIn) := goodIn_app (goodIn_of _ (by decide +kernel)) ggX2_event_X2_timeDenIn
theorem dX2_event_0 : decode cX2_event 0 = .ok (.iload_n 1, 1) := by decide +kernel
theorem dX2_event_1 : decode cX2_event 1 = .ok (.invokestatic 174, 3) := by decide +kernel
theorem dX2_event_4 : decode cX2_event 4 = .ok (.ifCond .eq 11, 3) := by decide +kernel
theorem dX2_event_7 : decode cX2_event 7 = .ok (.iload_n 1, 1) := by decide +kernel
theorem dX2_event_8 : decode cX2_event 8 = .ok (.aload_n 0, 1) := by decide +kernel
theorem dX2_event_9 : decode cX2_event 9 = .ok (.getfield 26, 3) := by decide +kernel
theorem dX2_event_12 : decode cX2_event 12 = .ok (.if_icmp .lt 5, 3) := by decide +kernel
theorem dX2_event_15 : decode cX2_event 15 = .ok (.iconst (-1), 1) := by decide +kernel
theorem dX2_event_16 : decode cX2_event 16 = .ok (.ireturn, 1) := by decide +kernel
theorem dX2_event_17 : decode cX2_event 17 = .ok (.iload_n 2, 1) := by decide +kernel
theorem dX2_event_18 : decode cX2_event 18 = .ok (.tableswitch 72 0 3 #[30, 40, 50, 61], 30) := by decide +kernel
theorem dX2_event_48 : decode cX2_event 48 = .ok (.aload_n 0, 1) := by decide +kernel
theorem dX2_event_49 : decode cX2_event 49 = .ok (.getfield 37, 3) := by decide +kernel
theorem dX2_event_52 : decode cX2_event 52 = .ok (.iload_n 1, 1) := by decide +kernel
theorem dX2_event_53 : decode cX2_event 53 = .ok (.laload, 1) := by decide +kernel
theorem dX2_event_54 : decode cX2_event 54 = .ok (.invokestatic 177, 3) := by decide +kernel
theorem dX2_event_57 : decode cX2_event 57 = .ok (.ireturn, 1) := by decide +kernel
theorem dX2_event_58 : decode cX2_event 58 = .ok (.aload_n 0, 1) := by decide +kernel
theorem dX2_event_59 : decode cX2_event 59 = .ok (.getfield 37, 3) := by decide +kernel
theorem dX2_event_62 : decode cX2_event 62 = .ok (.iload_n 1, 1) := by decide +kernel
theorem dX2_event_63 : decode cX2_event 63 = .ok (.laload, 1) := by decide +kernel
theorem dX2_event_64 : decode cX2_event 64 = .ok (.invokestatic 181, 3) := by decide +kernel
theorem dX2_event_67 : decode cX2_event 67 = .ok (.ireturn, 1) := by decide +kernel
theorem dX2_event_68 : decode cX2_event 68 = .ok (.aload_n 0, 1) := by decide +kernel
theorem dX2_event_69 : decode cX2_event 69 = .ok (.getfield 37, 3) := by decide +kernel
theorem dX2_event_72 : decode cX2_event 72 = .ok (.iload_n 1, 1) := by decide +kernel
theorem dX2_event_73 : decode cX2_event 73 = .ok (.laload, 1) := by decide +kernel
theorem dX2_event_74 : decode cX2_event 74 = .ok (.invokestatic 184, 3) := by decide +kernel
theorem dX2_event_77 : decode cX2_event 77 = .ok (.l2i, 1) := by decide +kernel
theorem dX2_event_78 : decode cX2_event 78 = .ok (.ireturn, 1) := by decide +kernel
theorem dX2_event_79 : decode cX2_event 79 = .ok (.aload_n 0, 1) := by decide +kernel
theorem dX2_event_80 : decode cX2_event 80 = .ok (.getfield 37, 3) := by decide +kernel
theorem dX2_event_83 : decode cX2_event 83 = .ok (.iload_n 1, 1) := by decide +kernel
theorem dX2_event_84 : decode cX2_event 84 = .ok (.laload, 1) := by decide +kernel
theorem dX2_event_85 : decode cX2_event 85 = .ok (.invokestatic 188, 3) := by decide +kernel
theorem dX2_event_88 : decode cX2_event 88 = .ok (.l2i, 1) := by decide +kernel
theorem dX2_event_89 : decode cX2_event 89 = .ok (.ireturn, 1) := by decide +kernel
theorem dX2_event_90 : decode cX2_event 90 = .ok (.iconst (-1), 1) := by decide +kernel
theorem dX2_event_91 : decode cX2_event 91 = .ok (.ireturn, 1) := by decide +kernel
set_option maxRecDepth 20000 in
theorem ggX2_ring_X1_copyFrom : GoodIn wsX2_ring wsX1_copyFrom := goodIn_r _ [9, 10, 11, 12, 13, 14, 15, 154, 155, 156, 157, 158, 159, 160, 161, 162, 163] (by decide +kernel) (by decide +kernel)
set_option maxRecDepth 20000 in
theorem gX2_ring_X1_copyFrom : GoodIn wsX2_ring (wsV RX2 126 RX1 yX1_copyFrom wsX1_copyFrom) := goodIn_app (goodIn_of _ (by decide +kernel)) ggX2_ring_X1_copyFrom
set_option maxRecDepth 20000 in
theorem ggX2_ring_X2_writeTrail : GoodIn wsX2_ring wsX2_writeTrail := goodIn_r _ [20, 21, 3, 22, 23, 24, 25, 19, 26, 27, 28, 29, 8, 30, 31, 14, 15, 32, 33, 34, 35, 10, 11, 36, 37, 125, 126, 127, 128, 129, 130, 131, 132, 133, 134, 135, 136, 137, 138, 139, 140, 141, 154, 155, 156, 157, 158, 159, 160, 161, 162, 163] (by decide +kernel) (by decide +kernel)
set_option maxRecDepth 20000 in
theorem gX2_ring_X2_writeTrail : GoodIn wsX2_ring (wsV RX2 191 RX2 yX2_writeTrail wsX2_writeTrail) := goodIn_app (goodIn_of _ (by decide +kernel)) ggX2_ring_X2_writeTrail
set_option maxRecDepth 20000 in
theorem ggX2_ring_X1_advance : GoodIn wsX2_ring wsX1_advance := goodIn_r _ [41, 42, 14, 36, 37, 43, 44, 45, 8, 46, 47, 13, 12, 48, 49, 50, 51, 52, 53, 54, 55, 56, 10, 11, 57, 19, 58, 59, 60, 61, 62, 63, 64, 65, 15, 66, 67, 68, 69, 70, 71, 72, 73, 74, 75, 76, 77, 78, 79, 80, 81, 82, 83, 84, 85, 86, 142, 143, 144, 145, 146, 147, 148, 149, 150, 151, 152, 153, 154, 155, 156, 157, 158, 159, 160, 161, 162, 163] (by decide +kernel) (by decide +kernel)
set_option maxRecDepth 20000 in
theorem gX2_ring_X1_advance : GoodIn wsX2_ring (wsV RX2 130 RX1 yX1_advance wsX1_advance) := goodIn_app (goodIn_of _ (by decide +kernel)) ggX2_ring_X1_advance
set_option maxRecDepth 20000 in
theorem ggX2_ring_X2_sameAhead : GoodIn wsX2_ring wsX2_sameAhead := goodIn_r _ [90, 91, 92, 93, 19, 94, 21, 125, 126, 127, 128, 129, 130, 131, 132, 133, 134, 135, 136, 137, 138, 139, 140, 141] (by decide +kernel) (by decide +kernel)
set_option maxRecDepth 20000 in
theorem gX2_ring_X2_sameAhead : GoodIn wsX2_ring (wsV RX2 195 RX2 yX2_sameAhead wsX2_sameAhead) := goodIn_app (goodIn_of _ (by decide +kernel)) ggX2_ring_X2_sameAhead
set_option maxRecDepth 20000 in
theorem ggX2_ring_X2_keepRing : GoodIn wsX2_ring wsX2_keepRing := goodIn_r _ [98, 99, 100, 101, 102, 103, 19, 104, 21, 105, 106, 107, 108, 109, 110, 111, 112, 113, 114, 115, 116, 117, 118, 57, 58, 119, 120, 121, 122, 123, 124, 125, 126, 127, 128, 129, 130, 131, 132, 133, 134, 135, 136, 137, 138, 139, 140, 141] (by decide +kernel) (by decide +kernel)
set_option maxRecDepth 20000 in
theorem gX2_ring_X2_keepRing : GoodIn wsX2_ring (wsV RX2 199 RX2 yX2_keepRing wsX2_keepRing) := goodIn_app (goodIn_of _ (by decide +kernel)) ggX2_ring_X2_keepRing
theorem dX2_ring_0 : decode cX2_ring 0 = .ok (.iload_n 1, 1) := by decide +kernel
theorem dX2_ring_1 : decode cX2_ring 1 = .ok (.iconst 1, 1) := by decide +kernel
theorem dX2_ring_2 : decode cX2_ring 2 = .ok (.if_icmp .lt 20, 3) := by decide +kernel
theorem dX2_ring_5 : decode cX2_ring 5 = .ok (.iload_n 1, 1) := by decide +kernel
theorem dX2_ring_6 : decode cX2_ring 6 = .ok (.sipush 300, 3) := by decide +kernel
theorem dX2_ring_9 : decode cX2_ring 9 = .ok (.if_icmp .gt 13, 3) := by decide +kernel
theorem dX2_ring_12 : decode cX2_ring 12 = .ok (.aload_n 0, 1) := by decide +kernel
theorem dX2_ring_13 : decode cX2_ring 13 = .ok (.getfield 12, 3) := by decide +kernel
theorem dX2_ring_16 : decode cX2_ring 16 = .ok (.getfield 76, 3) := by decide +kernel
theorem dX2_ring_19 : decode cX2_ring 19 = .ok (.ifCond .ne 5, 3) := by decide +kernel
theorem dX2_ring_22 : decode cX2_ring 22 = .ok (.iconst (-1), 1) := by decide +kernel
theorem dX2_ring_23 : decode cX2_ring 23 = .ok (.ireturn, 1) := by decide +kernel
theorem dX2_ring_24 : decode cX2_ring 24 = .ok (.aload_n 0, 1) := by decide +kernel
theorem dX2_ring_25 : decode cX2_ring 25 = .ok (.getfield 23, 3) := by decide +kernel
theorem dX2_ring_28 : decode cX2_ring 28 = .ok (.aload_n 0, 1) := by decide +kernel
theorem dX2_ring_29 : decode cX2_ring 29 = .ok (.getfield 19, 3) := by decide +kernel
theorem dX2_ring_32 : decode cX2_ring 32 = .ok (.invokevirtual 126, 3) := by decide +kernel
theorem dX2_ring_35 : decode cX2_ring 35 = .ok (.aload_n 0, 1) := by decide +kernel
theorem dX2_ring_36 : decode cX2_ring 36 = .ok (.iconst 0, 1) := by decide +kernel
theorem dX2_ring_37 : decode cX2_ring 37 = .ok (.invokevirtual 191, 3) := by decide +kernel
theorem dX2_ring_40 : decode cX2_ring 40 = .ok (.iconst 1, 1) := by decide +kernel
theorem dX2_ring_41 : decode cX2_ring 41 = .ok (.istore_n 2, 1) := by decide +kernel
theorem dX2_ring_42 : decode cX2_ring 42 = .ok (.iload_n 2, 1) := by decide +kernel
theorem dX2_ring_43 : decode cX2_ring 43 = .ok (.iload_n 1, 1) := by decide +kernel
theorem dX2_ring_44 : decode cX2_ring 44 = .ok (.if_icmp .gt 52, 3) := by decide +kernel
theorem dX2_ring_47 : decode cX2_ring 47 = .ok (.aload_n 0, 1) := by decide +kernel
theorem dX2_ring_48 : decode cX2_ring 48 = .ok (.getfield 23, 3) := by decide +kernel
theorem dX2_ring_51 : decode cX2_ring 51 = .ok (.aload_n 0, 1) := by decide +kernel
theorem dX2_ring_52 : decode cX2_ring 52 = .ok (.getfield 12, 3) := by decide +kernel
theorem dX2_ring_55 : decode cX2_ring 55 = .ok (.invokevirtual 130, 3) := by decide +kernel
theorem dX2_ring_58 : decode cX2_ring 58 = .ok (.ifCond .ne 6, 3) := by decide +kernel
theorem dX2_ring_61 : decode cX2_ring 61 = .ok (.bipush (-3), 2) := by decide +kernel
theorem dX2_ring_63 : decode cX2_ring 63 = .ok (.ireturn, 1) := by decide +kernel
theorem dX2_ring_64 : decode cX2_ring 64 = .ok (.aload_n 0, 1) := by decide +kernel
theorem dX2_ring_65 : decode cX2_ring 65 = .ok (.iload_n 2, 1) := by decide +kernel
