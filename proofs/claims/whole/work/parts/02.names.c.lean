theorem dX2_init_0 : decode cX2_init 0 = .ok (.aload_n 0, 1) := by decide +kernel
theorem dX2_init_1 : decode cX2_init 1 = .ok (.invokespecial 1, 3) := by decide +kernel
theorem dX2_init_4 : decode cX2_init 4 = .ok (.aload_n 0, 1) := by decide +kernel
theorem dX2_init_5 : decode cX2_init 5 = .ok (.bipush 16, 2) := by decide +kernel
theorem dX2_init_7 : decode cX2_init 7 = .ok (.anewarray 9, 3) := by decide +kernel
theorem dX2_init_10 : decode cX2_init 10 = .ok (.putfield 11, 3) := by decide +kernel
theorem dX2_init_13 : decode cX2_init 13 = .ok (.aload_n 0, 1) := by decide +kernel
theorem dX2_init_14 : decode cX2_init 14 = .ok (.iconst 0, 1) := by decide +kernel
theorem dX2_init_15 : decode cX2_init 15 = .ok (.putfield 15, 3) := by decide +kernel
theorem dX2_init_18 : decode cX2_init 18 = .ok (.aload_n 0, 1) := by decide +kernel
theorem dX2_init_19 : decode cX2_init 19 = .ok (.iconst 4, 1) := by decide +kernel
theorem dX2_init_20 : decode cX2_init 20 = .ok (.newarray .int, 2) := by decide +kernel
theorem dX2_init_22 : decode cX2_init 22 = .ok (.putfield 19, 3) := by decide +kernel
theorem dX2_init_25 : decode cX2_init 25 = .ok (.aload_n 0, 1) := by decide +kernel
theorem dX2_init_26 : decode cX2_init 26 = .ok (.bipush 8, 2) := by decide +kernel
theorem dX2_init_28 : decode cX2_init 28 = .ok (.putfield 23, 3) := by decide +kernel
theorem dX2_init_31 : decode cX2_init 31 = .ok (.aload_n 0, 1) := by decide +kernel
theorem dX2_init_32 : decode cX2_init 32 = .ok (.iconst 0, 1) := by decide +kernel
theorem dX2_init_33 : decode cX2_init 33 = .ok (.putfield 26, 3) := by decide +kernel
theorem dX2_init_36 : decode cX2_init 36 = .ok (.aload_n 0, 1) := by decide +kernel
theorem dX2_init_37 : decode cX2_init 37 = .ok (.iconst 0, 1) := by decide +kernel
theorem dX2_init_38 : decode cX2_init 38 = .ok (.putfield 29, 3) := by decide +kernel
theorem dX2_init_41 : decode cX2_init 41 = .ok (.aload_n 0, 1) := by decide +kernel
theorem dX2_init_42 : decode cX2_init 42 = .ok (.iconst 0, 1) := by decide +kernel
theorem dX2_init_43 : decode cX2_init 43 = .ok (.putfield 32, 3) := by decide +kernel
theorem dX2_init_46 : decode cX2_init 46 = .ok (.aload_n 0, 1) := by decide +kernel
theorem dX2_init_47 : decode cX2_init 47 = .ok (.iconst 0, 1) := by decide +kernel
theorem dX2_init_48 : decode cX2_init 48 = .ok (.putfield 36, 3) := by decide +kernel
theorem dX2_init_51 : decode cX2_init 51 = .ok (.aload_n 0, 1) := by decide +kernel
theorem dX2_init_52 : decode cX2_init 52 = .ok (.new 39, 3) := by decide +kernel
theorem dX2_init_55 : decode cX2_init 55 = .ok (.dup, 1) := by decide +kernel
theorem dX2_init_56 : decode cX2_init 56 = .ok (.invokespecial 41, 3) := by decide +kernel
theorem dX2_init_59 : decode cX2_init 59 = .ok (.putfield 42, 3) := by decide +kernel
theorem dX2_init_62 : decode cX2_init 62 = .ok (.return_, 1) := by decide +kernel
set_option maxRecDepth 20000 in
theorem ggX2_check_X2_isWithin : GoodIn wsX2_check wsX2_isWithin := goodIn_r _ [10] (by decide +kernel) (by decide +kernel)
set_option maxRecDepth 20000 in
theorem gX2_check_X2_isWithin : GoodIn wsX2_check (va_wsS RX2 46 yX2_isWithin wsX2_isWithin) := goodIn_app (goodIn_of _ (by decide +kernel)) ggX2_check_X2_isWithin
set_option maxRecDepth 20000 in
theorem ggX2_check_X2_checkAt : GoodIn wsX2_check wsX2_checkAt := goodIn_r _ [14, 2, 3, 7, 8, 9, 10, 40, 41, 42, 43, 44, 45, 46, 47, 48] (by decide +kernel) (by decide +kernel)
set_option maxRecDepth 20000 in
theorem gX2_check_X2_checkAt : GoodIn wsX2_check (wsV RX2 50 RX2 yX2_checkAt wsX2_checkAt) := goodIn_app (goodIn_of _ (by decide +kernel)) ggX2_check_X2_checkAt
set_option maxRecDepth 20000 in
theorem ggX2_check_X0_init : GoodIn wsX2_check wsX0_init := goodIn_r _ [17, 18, 19, 20, 21, 22, 23, 24, 25, 26, 27, 28, 29, 30, 31, 32, 33, 34, 35, 36, 37, 38, 39, 49, 50, 51, 52, 53, 54, 55, 56, 57, 58, 59, 60, 61, 62, 63, 64, 65, 66] (by decide +kernel) (by decide +kernel)
set_option maxRecDepth 20000 in
theorem gX2_check_X0_init : GoodIn wsX2_check (wsX0_init) := ggX2_check_X0_init
theorem dX2_check_0 : decode cX2_check 0 = .ok (.iload_n 1, 1) := by decide +kernel
theorem dX2_check_1 : decode cX2_check 1 = .ok (.iconst 0, 1) := by decide +kernel
theorem dX2_check_2 : decode cX2_check 2 = .ok (.iconst 2, 1) := by decide +kernel
theorem dX2_check_3 : decode cX2_check 3 = .ok (.invokestatic 46, 3) := by decide +kernel
theorem dX2_check_6 : decode cX2_check 6 = .ok (.ifCond .ne 6, 3) := by decide +kernel
theorem dX2_check_9 : decode cX2_check 9 = .ok (.bipush (-2), 2) := by decide +kernel
theorem dX2_check_11 : decode cX2_check 11 = .ok (.ireturn, 1) := by decide +kernel
theorem dX2_check_12 : decode cX2_check 12 = .ok (.iload_n 1, 1) := by decide +kernel
theorem dX2_check_13 : decode cX2_check 13 = .ok (.iconst 2, 1) := by decide +kernel
theorem dX2_check_14 : decode cX2_check 14 = .ok (.if_icmp .ne 14, 3) := by decide +kernel
theorem dX2_check_17 : decode cX2_check 17 = .ok (.aload_n 0, 1) := by decide +kernel
theorem dX2_check_18 : decode cX2_check 18 = .ok (.iload_n 2, 1) := by decide +kernel
theorem dX2_check_19 : decode cX2_check 19 = .ok (.invokevirtual 50, 3) := by decide +kernel
theorem dX2_check_22 : decode cX2_check 22 = .ok (.ifnonnull 6, 3) := by decide +kernel
theorem dX2_check_25 : decode cX2_check 25 = .ok (.bipush (-2), 2) := by decide +kernel
theorem dX2_check_27 : decode cX2_check 27 = .ok (.ireturn, 1) := by decide +kernel
theorem dX2_check_28 : decode cX2_check 28 = .ok (.iload_n 3, 1) := by decide +kernel
theorem dX2_check_29 : decode cX2_check 29 = .ok (.iconst 1, 1) := by decide +kernel
theorem dX2_check_30 : decode cX2_check 30 = .ok (.bipush 9, 2) := by decide +kernel
theorem dX2_check_32 : decode cX2_check 32 = .ok (.invokestatic 46, 3) := by decide +kernel
theorem dX2_check_35 : decode cX2_check 35 = .ok (.ifCond .eq 14, 3) := by decide +kernel
theorem dX2_check_38 : decode cX2_check 38 = .ok (.iload 4, 2) := by decide +kernel
theorem dX2_check_40 : decode cX2_check 40 = .ok (.iconst 1, 1) := by decide +kernel
theorem dX2_check_41 : decode cX2_check 41 = .ok (.bipush 9, 2) := by decide +kernel
theorem dX2_check_43 : decode cX2_check 43 = .ok (.invokestatic 46, 3) := by decide +kernel
theorem dX2_check_46 : decode cX2_check 46 = .ok (.ifCond .ne 6, 3) := by decide +kernel
theorem dX2_check_49 : decode cX2_check 49 = .ok (.bipush (-2), 2) := by decide +kernel
theorem dX2_check_51 : decode cX2_check 51 = .ok (.ireturn, 1) := by decide +kernel
theorem dX2_check_52 : decode cX2_check 52 = .ok (.iload 5, 2) := by decide +kernel
theorem dX2_check_54 : decode cX2_check 54 = .ok (.iconst 1, 1) := by decide +kernel
theorem dX2_check_55 : decode cX2_check 55 = .ok (.bipush 90, 2) := by decide +kernel
theorem dX2_check_57 : decode cX2_check 57 = .ok (.invokestatic 46, 3) := by decide +kernel
theorem dX2_check_60 : decode cX2_check 60 = .ok (.ifCond .eq 14, 3) := by decide +kernel
theorem dX2_check_63 : decode cX2_check 63 = .ok (.iload 6, 2) := by decide +kernel
theorem dX2_check_65 : decode cX2_check 65 = .ok (.iconst 0, 1) := by decide +kernel
theorem dX2_check_66 : decode cX2_check 66 = .ok (.bipush 9, 2) := by decide +kernel
theorem dX2_check_68 : decode cX2_check 68 = .ok (.invokestatic 46, 3) := by decide +kernel
theorem dX2_check_71 : decode cX2_check 71 = .ok (.ifCond .ne 6, 3) := by decide +kernel
theorem dX2_check_74 : decode cX2_check 74 = .ok (.bipush (-2), 2) := by decide +kernel
theorem dX2_check_76 : decode cX2_check 76 = .ok (.ireturn, 1) := by decide +kernel
theorem dX2_check_77 : decode cX2_check 77 = .ok (.aload_n 0, 1) := by decide +kernel
theorem dX2_check_78 : decode cX2_check 78 = .ok (.getfield 32, 3) := by decide +kernel
theorem dX2_check_81 : decode cX2_check 81 = .ok (.ifCond .eq 6, 3) := by decide +kernel
theorem dX2_check_84 : decode cX2_check 84 = .ok (.bipush (-3), 2) := by decide +kernel
theorem dX2_check_86 : decode cX2_check 86 = .ok (.ireturn, 1) := by decide +kernel
theorem dX2_check_87 : decode cX2_check 87 = .ok (.aload_n 0, 1) := by decide +kernel
theorem dX2_check_88 : decode cX2_check 88 = .ok (.getfield 15, 3) := by decide +kernel
theorem dX2_check_91 : decode cX2_check 91 = .ok (.bipush 16, 2) := by decide +kernel
theorem dX2_check_93 : decode cX2_check 93 = .ok (.if_icmp .lt 6, 3) := by decide +kernel
theorem dX2_check_96 : decode cX2_check 96 = .ok (.bipush (-4), 2) := by decide +kernel
theorem dX2_check_98 : decode cX2_check 98 = .ok (.ireturn, 1) := by decide +kernel
theorem dX2_check_99 : decode cX2_check 99 = .ok (.aload_n 0, 1) := by decide +kernel
theorem dX2_check_100 : decode cX2_check 100 = .ok (.getfield 11, 3) := by decide +kernel
theorem dX2_check_103 : decode cX2_check 103 = .ok (.aload_n 0, 1) := by decide +kernel
theorem dX2_check_104 : decode cX2_check 104 = .ok (.getfield 15, 3) := by decide +kernel
theorem dX2_check_107 : decode cX2_check 107 = .ok (.new 9, 3) := by decide +kernel
theorem dX2_check_110 : decode cX2_check 110 = .ok (.dup, 1) := by decide +kernel
theorem dX2_check_111 : decode cX2_check 111 = .ok (.iload_n 1, 1) := by decide +kernel
theorem dX2_check_112 : decode cX2_check 112 = .ok (.iload_n 2, 1) := by decide +kernel
theorem dX2_check_113 : decode cX2_check 113 = .ok (.iload_n 3, 1) := by decide +kernel
theorem dX2_check_114 : decode cX2_check 114 = .ok (.iload 4, 2) := by decide +kernel
theorem dX2_check_116 : decode cX2_check 116 = .ok (.iload 5, 2) := by decide +kernel
theorem dX2_check_118 : decode cX2_check 118 = .ok (.iload 6, 2) := by decide +kernel
theorem dX2_check_120 : decode cX2_check 120 = .ok (.iload 7, 2) := by decide +kernel
theorem dX2_check_122 : decode cX2_check 122 = .ok (.invokespecial 54, 3) := by decide +kernel
theorem dX2_check_125 : decode cX2_check 125 = .ok (.aastore, 1) := by decide +kernel
theorem dX2_check_126 : decode cX2_check 126 = .ok (.aload_n 0, 1) := by decide +kernel
theorem dX2_check_127 : decode cX2_check 127 = .ok (.dup, 1) := by decide +kernel
theorem dX2_check_128 : decode cX2_check 128 = .ok (.getfield 15, 3) := by decide +kernel
theorem dX2_check_131 : decode cX2_check 131 = .ok (.iconst 1, 1) := by decide +kernel
theorem dX2_check_132 : decode cX2_check 132 = .ok (.iadd, 1) := by decide +kernel
theorem dX2_check_133 : decode cX2_check 133 = .ok (.putfield 15, 3) := by decide +kernel
theorem dX2_check_136 : decode cX2_check 136 = .ok (.aload_n 0, 1) := by decide +kernel
theorem dX2_check_137 : decode cX2_check 137 = .ok (.getfield 15, 3) := by decide +kernel
theorem dX2_check_140 : decode cX2_check 140 = .ok (.iconst 1, 1) := by decide +kernel
theorem dX2_check_141 : decode cX2_check 141 = .ok (.isub, 1) := by decide +kernel
theorem dX2_check_142 : decode cX2_check 142 = .ok (.ireturn, 1) := by decide +kernel
set_option maxRecDepth 20000 in
theorem ggX2_begin_X2_troubledBits : GoodIn wsX2_begin wsX2_troubledBits := goodIn_r _ [8, 9, 10, 11, 7, 12, 13, 14, 15, 16, 17, 18, 19, 20, 21, 22, 23, 24, 25, 26, 27, 28, 29, 30, 31, 32, 33, 34, 35, 36, 37, 38, 39, 40, 41, 42, 43, 44, 45, 46, 47, 48, 49] (by decide +kernel) (by decide +kernel)
set_option maxRecDepth 20000 in
theorem gX2_begin_X2_troubledBits : GoodIn wsX2_begin (wsV RX2 57 RX2 yX2_troubledBits wsX2_troubledBits) := goodIn_app (goodIn_of _ (by decide +kernel)) ggX2_begin_X2_troubledBits
theorem dX2_begin_0 : decode cX2_begin 0 = .ok (.aload_n 0, 1) := by decide +kernel
theorem dX2_begin_1 : decode cX2_begin 1 = .ok (.getfield 32, 3) := by decide +kernel
theorem dX2_begin_4 : decode cX2_begin 4 = .ok (.ifCond .eq 6, 3) := by decide +kernel
theorem dX2_begin_7 : decode cX2_begin 7 = .ok (.bipush (-3), 2) := by decide +kernel
theorem dX2_begin_9 : decode cX2_begin 9 = .ok (.ireturn, 1) := by decide +kernel
theorem dX2_begin_10 : decode cX2_begin 10 = .ok (.aload_n 0, 1) := by decide +kernel
theorem dX2_begin_11 : decode cX2_begin 11 = .ok (.iconst 1, 1) := by decide +kernel
theorem dX2_begin_12 : decode cX2_begin 12 = .ok (.putfield 32, 3) := by decide +kernel
theorem dX2_begin_15 : decode cX2_begin 15 = .ok (.aload_n 0, 1) := by decide +kernel
theorem dX2_begin_16 : decode cX2_begin 16 = .ok (.aload_n 0, 1) := by decide +kernel
theorem dX2_begin_17 : decode cX2_begin 17 = .ok (.invokevirtual 57, 3) := by decide +kernel
theorem dX2_begin_20 : decode cX2_begin 20 = .ok (.putfield 36, 3) := by decide +kernel
theorem dX2_begin_23 : decode cX2_begin 23 = .ok (.aload_n 0, 1) := by decide +kernel
theorem dX2_begin_24 : decode cX2_begin 24 = .ok (.getfield 29, 3) := by decide +kernel
theorem dX2_begin_27 : decode cX2_begin 27 = .ok (.ireturn, 1) := by decide +kernel
set_option maxRecDepth 20000 in
theorem ggX2_ran_X2_checkAt : GoodIn wsX2_ran wsX2_checkAt := goodIn_r _ [6, 7, 8, 9, 10, 5, 11, 18, 19, 20, 21, 22, 23, 24, 25, 26] (by decide +kernel) (by decide +kernel)
set_option maxRecDepth 20000 in
theorem gX2_ran_X2_checkAt : GoodIn wsX2_ran (wsV RX2 50 RX2 yX2_checkAt wsX2_checkAt) := goodIn_app (goodIn_of _ (by decide +kernel)) ggX2_ran_X2_checkAt
set_option maxRecDepth 20000 in
theorem ggX2_ran_X0_tell : GoodIn wsX2_ran wsX0_tell := goodIn_r _ [16, 17, 27, 28, 29, 30, 31, 32, 33, 34, 35, 36, 37, 38, 39, 40, 41, 42, 43, 44] (by decide +kernel) (by decide +kernel)
set_option maxRecDepth 20000 in
theorem gX2_ran_X0_tell : GoodIn wsX2_ran (wsV RX2 61 RX0 yX0_tell wsX0_tell) := goodIn_app (goodIn_of _ (by decide +kernel)) ggX2_ran_X0_tell
theorem dX2_ran_0 : decode cX2_ran 0 = .ok (.aload_n 0, 1) := by decide +kernel
theorem dX2_ran_1 : decode cX2_ran 1 = .ok (.iload_n 1, 1) := by decide +kernel
theorem dX2_ran_2 : decode cX2_ran 2 = .ok (.invokevirtual 50, 3) := by decide +kernel
theorem dX2_ran_5 : decode cX2_ran 5 = .ok (.astore_n 3, 1) := by decide +kernel
theorem dX2_ran_6 : decode cX2_ran 6 = .ok (.aload_n 3, 1) := by decide +kernel
theorem dX2_ran_7 : decode cX2_ran 7 = .ok (.ifnonnull 6, 3) := by decide +kernel
theorem dX2_ran_10 : decode cX2_ran 10 = .ok (.bipush (-2), 2) := by decide +kernel
theorem dX2_ran_12 : decode cX2_ran 12 = .ok (.ireturn, 1) := by decide +kernel
theorem dX2_ran_13 : decode cX2_ran 13 = .ok (.aload_n 0, 1) := by decide +kernel
theorem dX2_ran_14 : decode cX2_ran 14 = .ok (.getfield 32, 3) := by decide +kernel
theorem dX2_ran_17 : decode cX2_ran 17 = .ok (.ifCond .ne 6, 3) := by decide +kernel
theorem dX2_ran_20 : decode cX2_ran 20 = .ok (.bipush (-3), 2) := by decide +kernel
theorem dX2_ran_22 : decode cX2_ran 22 = .ok (.ireturn, 1) := by decide +kernel
theorem dX2_ran_23 : decode cX2_ran 23 = .ok (.aload_n 3, 1) := by decide +kernel
theorem dX2_ran_24 : decode cX2_ran 24 = .ok (.iload_n 2, 1) := by decide +kernel
theorem dX2_ran_25 : decode cX2_ran 25 = .ok (.invokevirtual 61, 3) := by decide +kernel
theorem dX2_ran_28 : decode cX2_ran 28 = .ok (.iconst 1, 1) := by decide +kernel
theorem dX2_ran_29 : decode cX2_ran 29 = .ok (.ireturn, 1) := by decide +kernel
set_option maxRecDepth 20000 in
theorem ggX2_end_X2_checkAt : GoodIn wsX2_end wsX2_checkAt := goodIn_r _ [8, 2, 9, 10, 11, 7, 12, 105, 106, 107, 108, 109, 110, 111, 112, 113] (by decide +kernel) (by decide +kernel)
set_option maxRecDepth 20000 in
theorem gX2_end_X2_checkAt : GoodIn wsX2_end (wsV RX2 50 RX2 yX2_checkAt wsX2_checkAt) := goodIn_app (goodIn_of _ (by decide +kernel)) ggX2_end_X2_checkAt
set_option maxRecDepth 20000 in
theorem ggX2_end_X2_endFor : GoodIn wsX2_end wsX2_endFor := goodIn_r _ [16, 17, 18, 19, 20, 7, 21, 22, 23, 4, 5, 6, 8, 2, 9, 10, 11, 12, 24, 25, 26, 27, 28, 29, 30, 31, 32, 33, 34, 35, 36, 37, 38, 39, 40, 41, 42, 43, 44, 45, 46, 47, 48, 49, 50, 51, 52, 53, 54, 55, 56, 57, 58, 59, 60, 61, 62, 63, 64, 65, 66, 67, 68, 69, 3, 70, 71, 72, 73, 74, 75, 76, 77, 78, 79, 80, 81, 82, 83, 84, 85, 86, 87, 88, 89, 90, 91, 92, 93, 94, 95, 96, 97, 98, 99, 100, 101, 102, 103, 104, 105, 106, 107, 108, 109, 110, 111, 112, 113, 114, 115, 116, 117, 118, 119, 120, 121, 122, 123, 124, 125, 126, 127, 128, 129, 130, 131] (by decide +kernel) (by decide +kernel)
set_option maxRecDepth 20000 in
theorem gX2_end_X2_endFor : GoodIn wsX2_end (wsV RX2 65 RX2 yX2_endFor wsX2_endFor) := goodIn_app (goodIn_of _ (by decide +kernel)) ggX2_end_X2_endFor
theorem dX2_end_0 : decode cX2_end 0 = .ok (.aload_n 0, 1) := by decide +kernel
theorem dX2_end_1 : decode cX2_end 1 = .ok (.getfield 32, 3) := by decide +kernel
theorem dX2_end_4 : decode cX2_end 4 = .ok (.ifCond .ne 6, 3) := by decide +kernel
theorem dX2_end_7 : decode cX2_end 7 = .ok (.bipush (-3), 2) := by decide +kernel
theorem dX2_end_9 : decode cX2_end 9 = .ok (.ireturn, 1) := by decide +kernel
theorem dX2_end_10 : decode cX2_end 10 = .ok (.iconst 0, 1) := by decide +kernel
theorem dX2_end_11 : decode cX2_end 11 = .ok (.istore_n 1, 1) := by decide +kernel
theorem dX2_end_12 : decode cX2_end 12 = .ok (.iconst 0, 1) := by decide +kernel
theorem dX2_end_13 : decode cX2_end 13 = .ok (.istore_n 2, 1) := by decide +kernel
theorem dX2_end_14 : decode cX2_end 14 = .ok (.iload_n 2, 1) := by decide +kernel
theorem dX2_end_15 : decode cX2_end 15 = .ok (.aload_n 0, 1) := by decide +kernel
theorem dX2_end_16 : decode cX2_end 16 = .ok (.getfield 15, 3) := by decide +kernel
theorem dX2_end_19 : decode cX2_end 19 = .ok (.if_icmp .ge 30, 3) := by decide +kernel
theorem dX2_end_22 : decode cX2_end 22 = .ok (.aload_n 0, 1) := by decide +kernel
theorem dX2_end_23 : decode cX2_end 23 = .ok (.iload_n 2, 1) := by decide +kernel
theorem dX2_end_24 : decode cX2_end 24 = .ok (.invokevirtual 50, 3) := by decide +kernel
theorem dX2_end_27 : decode cX2_end 27 = .ok (.astore_n 3, 1) := by decide +kernel
theorem dX2_end_28 : decode cX2_end 28 = .ok (.aload_n 3, 1) := by decide +kernel
theorem dX2_end_29 : decode cX2_end 29 = .ok (.ifnull 14, 3) := by decide +kernel
theorem dX2_end_32 : decode cX2_end 32 = .ok (.aload_n 0, 1) := by decide +kernel
theorem dX2_end_33 : decode cX2_end 33 = .ok (.aload_n 3, 1) := by decide +kernel
theorem dX2_end_34 : decode cX2_end 34 = .ok (.invokevirtual 65, 3) := by decide +kernel
theorem dX2_end_37 : decode cX2_end 37 = .ok (.ifCond .eq 6, 3) := by decide +kernel
theorem dX2_end_40 : decode cX2_end 40 = .ok (.iinc 1 1, 3) := by decide +kernel
theorem dX2_end_43 : decode cX2_end 43 = .ok (.iinc 2 1, 3) := by decide +kernel
theorem dX2_end_46 : decode cX2_end 46 = .ok (.goto (-32), 3) := by decide +kernel
theorem dX2_end_49 : decode cX2_end 49 = .ok (.aload_n 0, 1) := by decide +kernel
theorem dX2_end_50 : decode cX2_end 50 = .ok (.iconst 0, 1) := by decide +kernel
theorem dX2_end_51 : decode cX2_end 51 = .ok (.putfield 32, 3) := by decide +kernel
theorem dX2_end_54 : decode cX2_end 54 = .ok (.aload_n 0, 1) := by decide +kernel
theorem dX2_end_55 : decode cX2_end 55 = .ok (.dup, 1) := by decide +kernel
theorem dX2_end_56 : decode cX2_end 56 = .ok (.getfield 29, 3) := by decide +kernel
theorem dX2_end_59 : decode cX2_end 59 = .ok (.iconst 1, 1) := by decide +kernel
theorem dX2_end_60 : decode cX2_end 60 = .ok (.iadd, 1) := by decide +kernel
theorem dX2_end_61 : decode cX2_end 61 = .ok (.putfield 29, 3) := by decide +kernel
theorem dX2_end_64 : decode cX2_end 64 = .ok (.iload_n 1, 1) := by decide +kernel
theorem dX2_end_65 : decode cX2_end 65 = .ok (.ireturn, 1) := by decide +kernel
set_option maxRecDepth 20000 in
theorem ggX2_fact_X2_isWithin : GoodIn wsX2_fact wsX2_isWithin := goodIn_r _ [5] (by decide +kernel) (by decide +kernel)
set_option maxRecDepth 20000 in
theorem gX2_fact_X2_isWithin : GoodIn wsX2_fact (va_wsS RX2 46 yX2_isWithin wsX2_isWithin) := goodIn_app (goodIn_of _ (by decide +kernel)) ggX2_fact_X2_isWithin
theorem dX2_fact_0 : decode cX2_fact 0 = .ok (.iload_n 1, 1) := by decide +kernel
theorem dX2_fact_1 : decode cX2_fact 1 = .ok (.iconst 0, 1) := by decide +kernel
theorem dX2_fact_2 : decode cX2_fact 2 = .ok (.iconst 3, 1) := by decide +kernel
theorem dX2_fact_3 : decode cX2_fact 3 = .ok (.invokestatic 46, 3) := by decide +kernel
theorem dX2_fact_6 : decode cX2_fact 6 = .ok (.ifCond .eq 16, 3) := by decide +kernel
theorem dX2_fact_9 : decode cX2_fact 9 = .ok (.iload_n 2, 1) := by decide +kernel
theorem dX2_fact_10 : decode cX2_fact 10 = .ok (.sipush (-1000), 3) := by decide +kernel
theorem dX2_fact_13 : decode cX2_fact 13 = .ok (.sipush 1000, 3) := by decide +kernel
theorem dX2_fact_16 : decode cX2_fact 16 = .ok (.invokestatic 46, 3) := by decide +kernel
theorem dX2_fact_19 : decode cX2_fact 19 = .ok (.ifCond .ne 7, 3) := by decide +kernel
theorem dX2_fact_22 : decode cX2_fact 22 = .ok (.sipush (-2000), 3) := by decide +kernel
theorem dX2_fact_25 : decode cX2_fact 25 = .ok (.ireturn, 1) := by decide +kernel
theorem dX2_fact_26 : decode cX2_fact 26 = .ok (.aload_n 0, 1) := by decide +kernel
theorem dX2_fact_27 : decode cX2_fact 27 = .ok (.getfield 19, 3) := by decide +kernel
theorem dX2_fact_30 : decode cX2_fact 30 = .ok (.iload_n 1, 1) := by decide +kernel
theorem dX2_fact_31 : decode cX2_fact 31 = .ok (.iaload, 1) := by decide +kernel
theorem dX2_fact_32 : decode cX2_fact 32 = .ok (.istore_n 3, 1) := by decide +kernel
theorem dX2_fact_33 : decode cX2_fact 33 = .ok (.aload_n 0, 1) := by decide +kernel
theorem dX2_fact_34 : decode cX2_fact 34 = .ok (.getfield 19, 3) := by decide +kernel
theorem dX2_fact_37 : decode cX2_fact 37 = .ok (.iload_n 1, 1) := by decide +kernel
theorem dX2_fact_38 : decode cX2_fact 38 = .ok (.iload_n 2, 1) := by decide +kernel
theorem dX2_fact_39 : decode cX2_fact 39 = .ok (.iastore, 1) := by decide +kernel
theorem dX2_fact_40 : decode cX2_fact 40 = .ok (.iload_n 3, 1) := by decide +kernel
theorem dX2_fact_41 : decode cX2_fact 41 = .ok (.ireturn, 1) := by decide +kernel
set_option maxRecDepth 20000 in
theorem ggX2_room_X2_isWithin : GoodIn wsX2_room wsX2_isWithin := goodIn_r _ [5] (by decide +kernel) (by decide +kernel)
set_option maxRecDepth 20000 in
theorem gX2_room_X2_isWithin : GoodIn wsX2_room (va_wsS RX2 46 yX2_isWithin wsX2_isWithin) := goodIn_app (goodIn_of _ (by decide +kernel)) ggX2_room_X2_isWithin
set_option maxRecDepth 20000 in
theorem ggX2_room_X2_frozenCount : GoodIn wsX2_room wsX2_frozenCount := goodIn_r _ [9, 10, 11, 12, 13, 4, 14, 15, 2, 3, 5, 16, 17, 18, 19, 20, 21, 41, 42, 43, 44, 45, 46, 47, 48, 49, 50, 51, 52, 53, 54, 55, 56, 57, 58, 59, 60, 61, 62, 63, 64, 65, 66, 67] (by decide +kernel) (by decide +kernel)
set_option maxRecDepth 20000 in
theorem gX2_room_X2_frozenCount : GoodIn wsX2_room (wsV RX2 69 RX2 yX2_frozenCount wsX2_frozenCount) := goodIn_app (goodIn_of _ (by decide +kernel)) ggX2_room_X2_frozenCount
set_option maxRecDepth 20000 in
theorem ggX2_room_X2_leastFrozen : GoodIn wsX2_room wsX2_leastFrozen := goodIn_r _ [25, 10, 11, 12, 13, 4, 14, 15, 2, 3, 5, 16, 17, 18, 19, 20, 21, 26, 27, 28, 29, 30, 31, 32, 33, 34, 35, 36, 41, 42, 43, 44, 45, 46, 47, 48, 49, 50, 51, 52, 53, 54, 55, 56, 57, 58, 59, 60, 61, 62, 63, 64, 65, 66, 67] (by decide +kernel) (by decide +kernel)
set_option maxRecDepth 20000 in
theorem gX2_room_X2_leastFrozen : GoodIn wsX2_room (wsV RX2 72 RX2 yX2_leastFrozen wsX2_leastFrozen) := goodIn_app (goodIn_of _ (by decide +kernel)) ggX2_room_X2_leastFrozen
set_option maxRecDepth 20000 in
theorem ggX2_room_X0_thaw : GoodIn wsX2_room wsX0_thaw := goodIn_r _ [40, 21, 50, 51, 52, 53, 54, 55, 56, 57, 58, 59, 60, 61, 62, 63, 64, 65, 66, 67] (by decide +kernel) (by decide +kernel)
set_option maxRecDepth 20000 in
theorem gX2_room_X0_thaw : GoodIn wsX2_room (wsV RX2 76 RX0 yX0_thaw wsX0_thaw) := goodIn_app (goodIn_of _ (by decide +kernel)) ggX2_room_X0_thaw
theorem dX2_room_0 : decode cX2_room 0 = .ok (.iload_n 1, 1) := by decide +kernel
theorem dX2_room_1 : decode cX2_room 1 = .ok (.iconst 1, 1) := by decide +kernel
theorem dX2_room_2 : decode cX2_room 2 = .ok (.bipush 8, 2) := by decide +kernel
theorem dX2_room_4 : decode cX2_room 4 = .ok (.invokestatic 46, 3) := by decide +kernel
theorem dX2_room_7 : decode cX2_room 7 = .ok (.ifCond .ne 6, 3) := by decide +kernel
theorem dX2_room_10 : decode cX2_room 10 = .ok (.bipush (-2), 2) := by decide +kernel
theorem dX2_room_12 : decode cX2_room 12 = .ok (.ireturn, 1) := by decide +kernel
theorem dX2_room_13 : decode cX2_room 13 = .ok (.aload_n 0, 1) := by decide +kernel
theorem dX2_room_14 : decode cX2_room 14 = .ok (.getfield 23, 3) := by decide +kernel
theorem dX2_room_17 : decode cX2_room 17 = .ok (.istore_n 2, 1) := by decide +kernel
theorem dX2_room_18 : decode cX2_room 18 = .ok (.aload_n 0, 1) := by decide +kernel
theorem dX2_room_19 : decode cX2_room 19 = .ok (.iload_n 1, 1) := by decide +kernel
theorem dX2_room_20 : decode cX2_room 20 = .ok (.putfield 23, 3) := by decide +kernel
theorem dX2_room_23 : decode cX2_room 23 = .ok (.aload_n 0, 1) := by decide +kernel
theorem dX2_room_24 : decode cX2_room 24 = .ok (.invokevirtual 69, 3) := by decide +kernel
theorem dX2_room_27 : decode cX2_room 27 = .ok (.iload_n 1, 1) := by decide +kernel
theorem dX2_room_28 : decode cX2_room 28 = .ok (.isub, 1) := by decide +kernel
theorem dX2_room_29 : decode cX2_room 29 = .ok (.istore_n 3, 1) := by decide +kernel
theorem dX2_room_30 : decode cX2_room 30 = .ok (.iload_n 3, 1) := by decide +kernel
theorem dX2_room_31 : decode cX2_room 31 = .ok (.ifCond .le 28, 3) := by decide +kernel
theorem dX2_room_34 : decode cX2_room 34 = .ok (.aload_n 0, 1) := by decide +kernel
theorem dX2_room_35 : decode cX2_room 35 = .ok (.invokevirtual 72, 3) := by decide +kernel
theorem dX2_room_38 : decode cX2_room 38 = .ok (.astore 4, 2) := by decide +kernel
theorem dX2_room_40 : decode cX2_room 40 = .ok (.aload 4, 2) := by decide +kernel
theorem dX2_room_42 : decode cX2_room 42 = .ok (.ifnonnull 6, 3) := by decide +kernel
theorem dX2_room_45 : decode cX2_room 45 = .ok (.goto 14, 3) := by decide +kernel
theorem dX2_room_48 : decode cX2_room 48 = .ok (.aload 4, 2) := by decide +kernel
theorem dX2_room_50 : decode cX2_room 50 = .ok (.invokevirtual 76, 3) := by decide +kernel
theorem dX2_room_53 : decode cX2_room 53 = .ok (.iinc 3 (-1), 3) := by decide +kernel
theorem dX2_room_56 : decode cX2_room 56 = .ok (.goto (-26), 3) := by decide +kernel
theorem dX2_room_59 : decode cX2_room 59 = .ok (.iload_n 2, 1) := by decide +kernel
theorem dX2_room_60 : decode cX2_room 60 = .ok (.ireturn, 1) := by decide +kernel
set_option maxRecDepth 20000 in
theorem ggX2_about_X2_checkAt : GoodIn wsX2_about wsX2_checkAt := goodIn_r _ [5, 6, 7, 8, 9, 4, 10, 40, 41, 42, 43, 44, 45, 46, 47, 48] (by decide +kernel) (by decide +kernel)
set_option maxRecDepth 20000 in
theorem gX2_about_X2_checkAt : GoodIn wsX2_about (wsV RX2 50 RX2 yX2_checkAt wsX2_checkAt) := goodIn_app (goodIn_of _ (by decide +kernel)) ggX2_about_X2_checkAt
set_option maxRecDepth 20000 in
theorem ggX2_about_X2_isWithin : GoodIn wsX2_about wsX2_isWithin := goodIn_r _ [10] (by decide +kernel) (by decide +kernel)
set_option maxRecDepth 20000 in
theorem gX2_about_X2_isWithin : GoodIn wsX2_about (va_wsS RX2 46 yX2_isWithin wsX2_isWithin) := goodIn_app (goodIn_of _ (by decide +kernel)) ggX2_about_X2_isWithin
set_option maxRecDepth 20000 in
theorem ggX2_about_X2_isHeldBack : GoodIn wsX2_about wsX2_isHeldBack := goodIn_r _ [14, 15, 16, 1, 2, 3, 4, 5, 6, 7, 8, 9, 10, 17, 18, 19, 20, 21, 22, 49, 50, 51, 52, 53, 54, 55, 56, 57, 58, 59, 60, 61, 62, 63, 64, 65, 66, 40, 41, 42, 43, 44, 45, 46, 47, 48] (by decide +kernel) (by decide +kernel)
set_option maxRecDepth 20000 in
theorem gX2_about_X2_isHeldBack : GoodIn wsX2_about (wsV RX2 79 RX2 yX2_isHeldBack wsX2_isHeldBack) := goodIn_app (goodIn_of _ (by decide +kernel)) ggX2_about_X2_isHeldBack
set_option maxRecDepth 20000 in
theorem ggX2_about_X2_asNumber : GoodIn wsX2_about wsX2_asNumber := goodIn_r _ [25] (by decide +kernel) (by decide +kernel)
set_option maxRecDepth 20000 in
theorem gX2_about_X2_asNumber : GoodIn wsX2_about (va_wsS RX2 82 yX2_asNumber wsX2_asNumber) := goodIn_app (goodIn_of _ (by decide +kernel)) ggX2_about_X2_asNumber
set_option maxRecDepth 20000 in
theorem ggX2_about_X0_numberOf : GoodIn wsX2_about wsX0_numberOf := goodIn_r _ [29, 22, 30, 31, 32, 33, 34, 35, 36, 37, 20, 38, 39, 24, 4, 25, 49, 50, 51, 52, 53, 54, 55, 56, 57, 58, 59, 60, 61, 62, 63, 64, 65, 66] (by decide +kernel) (by decide +kernel)
set_option maxRecDepth 20000 in
theorem gX2_about_X0_numberOf : GoodIn wsX2_about (wsV RX2 86 RX0 yX0_numberOf wsX0_numberOf) := goodIn_app (goodIn_of _ (by decide +kernel)) ggX2_about_X0_numberOf
theorem dX2_about_0 : decode cX2_about 0 = .ok (.aload_n 0, 1) := by decide +kernel
theorem dX2_about_1 : decode cX2_about 1 = .ok (.iload_n 1, 1) := by decide +kernel
theorem dX2_about_2 : decode cX2_about 2 = .ok (.invokevirtual 50, 3) := by decide +kernel
theorem dX2_about_5 : decode cX2_about 5 = .ok (.astore_n 3, 1) := by decide +kernel
theorem dX2_about_6 : decode cX2_about 6 = .ok (.aload_n 3, 1) := by decide +kernel
theorem dX2_about_7 : decode cX2_about 7 = .ok (.ifnull 13, 3) := by decide +kernel
theorem dX2_about_10 : decode cX2_about 10 = .ok (.iload_n 2, 1) := by decide +kernel
theorem dX2_about_11 : decode cX2_about 11 = .ok (.iconst 0, 1) := by decide +kernel
theorem dX2_about_12 : decode cX2_about 12 = .ok (.bipush 7, 2) := by decide +kernel
theorem dX2_about_14 : decode cX2_about 14 = .ok (.invokestatic 46, 3) := by decide +kernel
theorem dX2_about_17 : decode cX2_about 17 = .ok (.ifCond .ne 6, 3) := by decide +kernel
theorem dX2_about_20 : decode cX2_about 20 = .ok (.bipush (-2), 2) := by decide +kernel
theorem dX2_about_22 : decode cX2_about 22 = .ok (.ireturn, 1) := by decide +kernel
theorem dX2_about_23 : decode cX2_about 23 = .ok (.iload_n 2, 1) := by decide +kernel
theorem dX2_about_24 : decode cX2_about 24 = .ok (.iconst 4, 1) := by decide +kernel
theorem dX2_about_25 : decode cX2_about 25 = .ok (.if_icmp .ne 14, 3) := by decide +kernel
theorem dX2_about_28 : decode cX2_about 28 = .ok (.aload_n 0, 1) := by decide +kernel
theorem dX2_about_29 : decode cX2_about 29 = .ok (.aload_n 3, 1) := by decide +kernel
theorem dX2_about_30 : decode cX2_about 30 = .ok (.invokevirtual 79, 3) := by decide +kernel
theorem dX2_about_33 : decode cX2_about 33 = .ok (.invokestatic 82, 3) := by decide +kernel
theorem dX2_about_36 : decode cX2_about 36 = .ok (.goto 8, 3) := by decide +kernel
theorem dX2_about_39 : decode cX2_about 39 = .ok (.aload_n 3, 1) := by decide +kernel
theorem dX2_about_40 : decode cX2_about 40 = .ok (.iload_n 2, 1) := by decide +kernel
theorem dX2_about_41 : decode cX2_about 41 = .ok (.invokevirtual 86, 3) := by decide +kernel
theorem dX2_about_44 : decode cX2_about 44 = .ok (.ireturn, 1) := by decide +kernel
set_option maxRecDepth 20000 in
theorem ggX2_frozen_X2_checkAt : GoodIn wsX2_frozen wsX2_checkAt := goodIn_r _ [6, 7, 8, 9, 10, 5, 11, 36, 37, 38, 39, 40, 41, 42, 43, 44] (by decide +kernel) (by decide +kernel)
set_option maxRecDepth 20000 in
theorem gX2_frozen_X2_checkAt : GoodIn wsX2_frozen (wsV RX2 50 RX2 yX2_checkAt wsX2_checkAt) := goodIn_app (goodIn_of _ (by decide +kernel)) ggX2_frozen_X2_checkAt
set_option maxRecDepth 20000 in
theorem ggX2_frozen_X2_isWithin : GoodIn wsX2_frozen wsX2_isWithin := goodIn_r _ [11] (by decide +kernel) (by decide +kernel)
set_option maxRecDepth 20000 in
theorem gX2_frozen_X2_isWithin : GoodIn wsX2_frozen (va_wsS RX2 46 yX2_isWithin wsX2_isWithin) := goodIn_app (goodIn_of _ (by decide +kernel)) ggX2_frozen_X2_isWithin
set_option maxRecDepth 20000 in
theorem ggX2_frozen_X0_isFrozen : GoodIn wsX2_frozen wsX0_isFrozen := goodIn_r _ [16, 17, 18, 19, 20, 21, 22, 23, 24, 25, 26, 27, 28, 29, 30, 31, 32, 33, 34, 35] (by decide +kernel) (by decide +kernel)
set_option maxRecDepth 20000 in
theorem gX2_frozen_X0_isFrozen : GoodIn wsX2_frozen (wsV RX2 90 RX0 yX0_isFrozen wsX0_isFrozen) := goodIn_app (goodIn_of _ (by decide +kernel)) ggX2_frozen_X0_isFrozen
theorem dX2_frozen_0 : decode cX2_frozen 0 = .ok (.aload_n 0, 1) := by decide +kernel
theorem dX2_frozen_1 : decode cX2_frozen 1 = .ok (.iload_n 1, 1) := by decide +kernel
theorem dX2_frozen_2 : decode cX2_frozen 2 = .ok (.invokevirtual 50, 3) := by decide +kernel
theorem dX2_frozen_5 : decode cX2_frozen 5 = .ok (.astore_n 3, 1) := by decide +kernel
theorem dX2_frozen_6 : decode cX2_frozen 6 = .ok (.aload_n 3, 1) := by decide +kernel
theorem dX2_frozen_7 : decode cX2_frozen 7 = .ok (.ifnull 19, 3) := by decide +kernel
theorem dX2_frozen_10 : decode cX2_frozen 10 = .ok (.iload_n 2, 1) := by decide +kernel
theorem dX2_frozen_11 : decode cX2_frozen 11 = .ok (.iconst 0, 1) := by decide +kernel
theorem dX2_frozen_12 : decode cX2_frozen 12 = .ok (.iconst 3, 1) := by decide +kernel
theorem dX2_frozen_13 : decode cX2_frozen 13 = .ok (.invokestatic 46, 3) := by decide +kernel
theorem dX2_frozen_16 : decode cX2_frozen 16 = .ok (.ifCond .eq 10, 3) := by decide +kernel
theorem dX2_frozen_19 : decode cX2_frozen 19 = .ok (.aload_n 3, 1) := by decide +kernel
theorem dX2_frozen_20 : decode cX2_frozen 20 = .ok (.invokevirtual 90, 3) := by decide +kernel
theorem dX2_frozen_23 : decode cX2_frozen 23 = .ok (.ifCond .ne 7, 3) := by decide +kernel
theorem dX2_frozen_26 : decode cX2_frozen 26 = .ok (.sipush (-2000), 3) := by decide +kernel
theorem dX2_frozen_29 : decode cX2_frozen 29 = .ok (.ireturn, 1) := by decide +kernel
theorem dX2_frozen_30 : decode cX2_frozen 30 = .ok (.aload_n 3, 1) := by decide +kernel
theorem dX2_frozen_31 : decode cX2_frozen 31 = .ok (.getfield 94, 3) := by decide +kernel
theorem dX2_frozen_34 : decode cX2_frozen 34 = .ok (.iload_n 2, 1) := by decide +kernel
theorem dX2_frozen_35 : decode cX2_frozen 35 = .ok (.iaload, 1) := by decide +kernel
theorem dX2_frozen_36 : decode cX2_frozen 36 = .ok (.ireturn, 1) := by decide +kernel
set_option maxRecDepth 20000 in
theorem ggX2_frozenAt_X2_checkAt : GoodIn wsX2_frozenAt wsX2_checkAt := goodIn_r _ [6, 7, 8, 9, 10, 5, 11, 30, 31, 32, 33, 34, 35, 36, 37, 38] (by decide +kernel) (by decide +kernel)
set_option maxRecDepth 20000 in
theorem gX2_frozenAt_X2_checkAt : GoodIn wsX2_frozenAt (wsV RX2 50 RX2 yX2_checkAt wsX2_checkAt) := goodIn_app (goodIn_of _ (by decide +kernel)) ggX2_frozenAt_X2_checkAt
theorem dX2_frozenAt_0 : decode cX2_frozenAt 0 = .ok (.aload_n 0, 1) := by decide +kernel
theorem dX2_frozenAt_1 : decode cX2_frozenAt 1 = .ok (.iload_n 1, 1) := by decide +kernel
theorem dX2_frozenAt_2 : decode cX2_frozenAt 2 = .ok (.invokevirtual 50, 3) := by decide +kernel
theorem dX2_frozenAt_5 : decode cX2_frozenAt 5 = .ok (.astore_n 2, 1) := by decide +kernel
theorem dX2_frozenAt_6 : decode cX2_frozenAt 6 = .ok (.aload_n 2, 1) := by decide +kernel
theorem dX2_frozenAt_7 : decode cX2_frozenAt 7 = .ok (.ifnonnull 8, 3) := by decide +kernel
theorem dX2_frozenAt_10 : decode cX2_frozenAt 10 = .ok (.bipush (-2), 2) := by decide +kernel
theorem dX2_frozenAt_12 : decode cX2_frozenAt 12 = .ok (.goto 7, 3) := by decide +kernel
theorem dX2_frozenAt_15 : decode cX2_frozenAt 15 = .ok (.aload_n 2, 1) := by decide +kernel
theorem dX2_frozenAt_16 : decode cX2_frozenAt 16 = .ok (.getfield 97, 3) := by decide +kernel
theorem dX2_frozenAt_19 : decode cX2_frozenAt 19 = .ok (.ireturn, 1) := by decide +kernel
set_option maxRecDepth 20000 in
theorem ggX2_lamp_X2_checkAt : GoodIn wsX2_lamp wsX2_checkAt := goodIn_r _ [8, 1, 9, 10, 11, 7, 12, 13, 14, 15, 16, 17, 18, 19, 20, 21] (by decide +kernel) (by decide +kernel)
set_option maxRecDepth 20000 in
theorem gX2_lamp_X2_checkAt : GoodIn wsX2_lamp (wsV RX2 50 RX2 yX2_checkAt wsX2_checkAt) := goodIn_app (goodIn_of _ (by decide +kernel)) ggX2_lamp_X2_checkAt
theorem dX2_lamp_0 : decode cX2_lamp 0 = .ok (.iconst 0, 1) := by decide +kernel
theorem dX2_lamp_1 : decode cX2_lamp 1 = .ok (.istore_n 1, 1) := by decide +kernel
theorem dX2_lamp_2 : decode cX2_lamp 2 = .ok (.iload_n 1, 1) := by decide +kernel
theorem dX2_lamp_3 : decode cX2_lamp 3 = .ok (.aload_n 0, 1) := by decide +kernel
theorem dX2_lamp_4 : decode cX2_lamp 4 = .ok (.getfield 15, 3) := by decide +kernel
theorem dX2_lamp_7 : decode cX2_lamp 7 = .ok (.if_icmp .ge 36, 3) := by decide +kernel
theorem dX2_lamp_10 : decode cX2_lamp 10 = .ok (.aload_n 0, 1) := by decide +kernel
theorem dX2_lamp_11 : decode cX2_lamp 11 = .ok (.iload_n 1, 1) := by decide +kernel
theorem dX2_lamp_12 : decode cX2_lamp 12 = .ok (.invokevirtual 50, 3) := by decide +kernel
theorem dX2_lamp_15 : decode cX2_lamp 15 = .ok (.astore_n 2, 1) := by decide +kernel
theorem dX2_lamp_16 : decode cX2_lamp 16 = .ok (.aload_n 2, 1) := by decide +kernel
theorem dX2_lamp_17 : decode cX2_lamp 17 = .ok (.ifnull 20, 3) := by decide +kernel
theorem dX2_lamp_20 : decode cX2_lamp 20 = .ok (.aload_n 2, 1) := by decide +kernel
theorem dX2_lamp_21 : decode cX2_lamp 21 = .ok (.getfield 100, 3) := by decide +kernel
theorem dX2_lamp_24 : decode cX2_lamp 24 = .ok (.ifCond .eq 13, 3) := by decide +kernel
theorem dX2_lamp_27 : decode cX2_lamp 27 = .ok (.aload_n 2, 1) := by decide +kernel
theorem dX2_lamp_28 : decode cX2_lamp 28 = .ok (.getfield 103, 3) := by decide +kernel
theorem dX2_lamp_31 : decode cX2_lamp 31 = .ok (.iconst 2, 1) := by decide +kernel
theorem dX2_lamp_32 : decode cX2_lamp 32 = .ok (.if_icmp .ne 5, 3) := by decide +kernel
theorem dX2_lamp_35 : decode cX2_lamp 35 = .ok (.iconst 1, 1) := by decide +kernel
theorem dX2_lamp_36 : decode cX2_lamp 36 = .ok (.ireturn, 1) := by decide +kernel
theorem dX2_lamp_37 : decode cX2_lamp 37 = .ok (.iinc 1 1, 3) := by decide +kernel
theorem dX2_lamp_40 : decode cX2_lamp 40 = .ok (.goto (-38), 3) := by decide +kernel
theorem dX2_lamp_43 : decode cX2_lamp 43 = .ok (.iconst 0, 1) := by decide +kernel
theorem dX2_lamp_44 : decode cX2_lamp 44 = .ok (.ireturn, 1) := by decide +kernel
set_option maxRecDepth 20000 in
theorem ggX2_clear_X2_checkAt : GoodIn wsX2_clear wsX2_checkAt := goodIn_r _ [7, 2, 8, 9, 10, 6, 11, 32, 33, 34, 35, 36, 37, 38, 39, 40] (by decide +kernel) (by decide +kernel)
set_option maxRecDepth 20000 in
theorem gX2_clear_X2_checkAt : GoodIn wsX2_clear (wsV RX2 50 RX2 yX2_checkAt wsX2_checkAt) := goodIn_app (goodIn_of _ (by decide +kernel)) ggX2_clear_X2_checkAt
set_option maxRecDepth 20000 in
theorem ggX2_clear_X0_clearCode : GoodIn wsX2_clear wsX0_clearCode := goodIn_r _ [16, 17, 18, 19, 20, 21, 22, 23, 24, 15, 25, 26, 27, 28, 29, 30, 31, 41, 42, 43, 44, 45, 46, 47, 48, 49, 50, 51, 52, 53, 54, 55, 56, 57, 58] (by decide +kernel) (by decide +kernel)
set_option maxRecDepth 20000 in
theorem gX2_clear_X0_clearCode : GoodIn wsX2_clear (wsV RX2 106 RX0 yX0_clearCode wsX0_clearCode) := goodIn_app (goodIn_of _ (by decide +kernel)) ggX2_clear_X0_clearCode
theorem dX2_clear_0 : decode cX2_clear 0 = .ok (.aload_n 0, 1) := by decide +kernel
theorem dX2_clear_1 : decode cX2_clear 1 = .ok (.getfield 32, 3) := by decide +kernel
theorem dX2_clear_4 : decode cX2_clear 4 = .ok (.ifCond .eq 6, 3) := by decide +kernel
theorem dX2_clear_7 : decode cX2_clear 7 = .ok (.bipush (-3), 2) := by decide +kernel
theorem dX2_clear_9 : decode cX2_clear 9 = .ok (.ireturn, 1) := by decide +kernel
theorem dX2_clear_10 : decode cX2_clear 10 = .ok (.iconst 0, 1) := by decide +kernel
theorem dX2_clear_11 : decode cX2_clear 11 = .ok (.istore_n 1, 1) := by decide +kernel
theorem dX2_clear_12 : decode cX2_clear 12 = .ok (.iconst 0, 1) := by decide +kernel
theorem dX2_clear_13 : decode cX2_clear 13 = .ok (.istore_n 2, 1) := by decide +kernel
theorem dX2_clear_14 : decode cX2_clear 14 = .ok (.iload_n 2, 1) := by decide +kernel
theorem dX2_clear_15 : decode cX2_clear 15 = .ok (.aload_n 0, 1) := by decide +kernel
theorem dX2_clear_16 : decode cX2_clear 16 = .ok (.getfield 15, 3) := by decide +kernel
theorem dX2_clear_19 : decode cX2_clear 19 = .ok (.if_icmp .ge 29, 3) := by decide +kernel
theorem dX2_clear_22 : decode cX2_clear 22 = .ok (.aload_n 0, 1) := by decide +kernel
theorem dX2_clear_23 : decode cX2_clear 23 = .ok (.iload_n 2, 1) := by decide +kernel
theorem dX2_clear_24 : decode cX2_clear 24 = .ok (.invokevirtual 50, 3) := by decide +kernel
theorem dX2_clear_27 : decode cX2_clear 27 = .ok (.astore_n 3, 1) := by decide +kernel
theorem dX2_clear_28 : decode cX2_clear 28 = .ok (.aload_n 3, 1) := by decide +kernel
theorem dX2_clear_29 : decode cX2_clear 29 = .ok (.ifnull 13, 3) := by decide +kernel
theorem dX2_clear_32 : decode cX2_clear 32 = .ok (.aload_n 3, 1) := by decide +kernel
theorem dX2_clear_33 : decode cX2_clear 33 = .ok (.invokevirtual 106, 3) := by decide +kernel
theorem dX2_clear_36 : decode cX2_clear 36 = .ok (.ifCond .eq 6, 3) := by decide +kernel
theorem dX2_clear_39 : decode cX2_clear 39 = .ok (.iinc 1 1, 3) := by decide +kernel
theorem dX2_clear_42 : decode cX2_clear 42 = .ok (.iinc 2 1, 3) := by decide +kernel
theorem dX2_clear_45 : decode cX2_clear 45 = .ok (.goto (-31), 3) := by decide +kernel
theorem dX2_clear_48 : decode cX2_clear 48 = .ok (.iload_n 1, 1) := by decide +kernel
theorem dX2_clear_49 : decode cX2_clear 49 = .ok (.ireturn, 1) := by decide +kernel
set_option maxRecDepth 20000 in
theorem ggX2_cause_X2_isBitsBelow : GoodIn wsX2_cause wsX2_isBitsBelow := goodIn_r _ [6] (by decide +kernel) (by decide +kernel)
set_option maxRecDepth 20000 in
theorem gX2_cause_X2_isBitsBelow : GoodIn wsX2_cause (va_wsS RX2 109 yX2_isBitsBelow wsX2_isBitsBelow) := goodIn_app (goodIn_of _ (by decide +kernel)) ggX2_cause_X2_isBitsBelow
set_option maxRecDepth 20000 in
theorem ggX2_cause_X2_isWithin : GoodIn wsX2_cause wsX2_isWithin := goodIn_r _ [9] (by decide +kernel) (by decide +kernel)
set_option maxRecDepth 20000 in
theorem gX2_cause_X2_isWithin : GoodIn wsX2_cause (va_wsS RX2 46 yX2_isWithin wsX2_isWithin) := goodIn_app (goodIn_of _ (by decide +kernel)) ggX2_cause_X2_isWithin
set_option maxRecDepth 20000 in
theorem ggX2_cause_X1_addCause : GoodIn wsX2_cause wsX1_addCause := goodIn_r _ [14, 15, 16, 17, 18, 28, 29, 30, 31, 32, 33, 34, 35, 36, 37, 38, 39, 40] (by decide +kernel) (by decide +kernel)
set_option maxRecDepth 20000 in
theorem gX2_cause_X1_addCause : GoodIn wsX2_cause (wsV RX2 113 RX1 yX1_addCause wsX1_addCause) := goodIn_app (goodIn_of _ (by decide +kernel)) ggX2_cause_X1_addCause
theorem dX2_cause_0 : decode cX2_cause 0 = .ok (.iload_n 1, 1) := by decide +kernel
theorem dX2_cause_1 : decode cX2_cause 1 = .ok (.ifCond .eq 14, 3) := by decide +kernel
theorem dX2_cause_4 : decode cX2_cause 4 = .ok (.iload_n 1, 1) := by decide +kernel
theorem dX2_cause_5 : decode cX2_cause 5 = .ok (.aload_n 0, 1) := by decide +kernel
theorem dX2_cause_6 : decode cX2_cause 6 = .ok (.getfield 15, 3) := by decide +kernel
theorem dX2_cause_9 : decode cX2_cause 9 = .ok (.invokestatic 109, 3) := by decide +kernel
theorem dX2_cause_12 : decode cX2_cause 12 = .ok (.ifCond .ne 6, 3) := by decide +kernel
theorem dX2_cause_15 : decode cX2_cause 15 = .ok (.bipush (-2), 2) := by decide +kernel
theorem dX2_cause_17 : decode cX2_cause 17 = .ok (.ireturn, 1) := by decide +kernel
theorem dX2_cause_18 : decode cX2_cause 18 = .ok (.iload_n 2, 1) := by decide +kernel
theorem dX2_cause_19 : decode cX2_cause 19 = .ok (.iconst 1, 1) := by decide +kernel
theorem dX2_cause_20 : decode cX2_cause 20 = .ok (.sipush 1000, 3) := by decide +kernel
theorem dX2_cause_23 : decode cX2_cause 23 = .ok (.invokestatic 46, 3) := by decide +kernel
theorem dX2_cause_26 : decode cX2_cause 26 = .ok (.ifCond .ne 6, 3) := by decide +kernel
theorem dX2_cause_29 : decode cX2_cause 29 = .ok (.bipush (-2), 2) := by decide +kernel
theorem dX2_cause_31 : decode cX2_cause 31 = .ok (.ireturn, 1) := by decide +kernel
theorem dX2_cause_32 : decode cX2_cause 32 = .ok (.aload_n 0, 1) := by decide +kernel
theorem dX2_cause_33 : decode cX2_cause 33 = .ok (.getfield 42, 3) := by decide +kernel
theorem dX2_cause_36 : decode cX2_cause 36 = .ok (.iload_n 1, 1) := by decide +kernel
theorem dX2_cause_37 : decode cX2_cause 37 = .ok (.iload_n 2, 1) := by decide +kernel
theorem dX2_cause_38 : decode cX2_cause 38 = .ok (.invokevirtual 113, 3) := by decide +kernel
theorem dX2_cause_41 : decode cX2_cause 41 = .ok (.ireturn, 1) := by decide +kernel
set_option maxRecDepth 20000 in
theorem ggX2_explains_X2_isBitsBelow : GoodIn wsX2_explains wsX2_isBitsBelow := goodIn_r _ [6] (by decide +kernel) (by decide +kernel)
set_option maxRecDepth 20000 in
theorem gX2_explains_X2_isBitsBelow : GoodIn wsX2_explains (va_wsS RX2 109 yX2_isBitsBelow wsX2_isBitsBelow) := goodIn_app (goodIn_of _ (by decide +kernel)) ggX2_explains_X2_isBitsBelow
set_option maxRecDepth 20000 in
theorem ggX2_explains_X2_ranBits : GoodIn wsX2_explains wsX2_ranBits := goodIn_r _ [10, 11, 12, 13, 14, 15, 5, 16, 17, 18, 19, 20, 35, 36, 37, 38, 39, 40, 41, 42, 43, 57, 58, 59, 60, 61, 62, 63, 64, 65, 66, 67, 68, 69, 70, 71, 72, 73, 74] (by decide +kernel) (by decide +kernel)
set_option maxRecDepth 20000 in
theorem gX2_explains_X2_ranBits : GoodIn wsX2_explains (wsV RX2 120 RX2 yX2_ranBits wsX2_ranBits) := goodIn_app (goodIn_of _ (by decide +kernel)) ggX2_explains_X2_ranBits
set_option maxRecDepth 20000 in
theorem ggX2_explains_X2_codeBits : GoodIn wsX2_explains wsX2_codeBits := goodIn_r _ [24, 11, 25, 13, 14, 15, 5, 16, 17, 18, 19, 20, 35, 36, 37, 38, 39, 40, 41, 42, 43, 57, 58, 59, 60, 61, 62, 63, 64, 65, 66, 67, 68, 69, 70, 71, 72, 73, 74] (by decide +kernel) (by decide +kernel)
set_option maxRecDepth 20000 in
theorem gX2_explains_X2_codeBits : GoodIn wsX2_explains (wsV RX2 123 RX2 yX2_codeBits wsX2_codeBits) := goodIn_app (goodIn_of _ (by decide +kernel)) ggX2_explains_X2_codeBits
set_option maxRecDepth 20000 in
theorem ggX2_explains_X1_isExplainedBy : GoodIn wsX2_explains wsX1_isExplainedBy := goodIn_r _ [30, 31, 44, 45, 46, 47, 48, 49, 50, 51, 52, 53, 54, 55, 56] (by decide +kernel) (by decide +kernel)
set_option maxRecDepth 20000 in
theorem gX2_explains_X1_isExplainedBy : GoodIn wsX2_explains (wsV RX2 126 RX1 yX1_isExplainedBy wsX1_isExplainedBy) := goodIn_app (goodIn_of _ (by decide +kernel)) ggX2_explains_X1_isExplainedBy
set_option maxRecDepth 20000 in
theorem ggX2_explains_X2_asNumber : GoodIn wsX2_explains wsX2_asNumber := goodIn_r _ [34] (by decide +kernel) (by decide +kernel)
set_option maxRecDepth 20000 in
theorem gX2_explains_X2_asNumber : GoodIn wsX2_explains (va_wsS RX2 82 yX2_asNumber wsX2_asNumber) := goodIn_app (goodIn_of _ (by decide +kernel)) ggX2_explains_X2_asNumber
theorem dX2_explains_0 : decode cX2_explains 0 = .ok (.iload_n 1, 1) := by decide +kernel
theorem dX2_explains_1 : decode cX2_explains 1 = .ok (.aload_n 0, 1) := by decide +kernel
theorem dX2_explains_2 : decode cX2_explains 2 = .ok (.getfield 42, 3) := by decide +kernel
theorem dX2_explains_5 : decode cX2_explains 5 = .ok (.getfield 117, 3) := by decide +kernel
theorem dX2_explains_8 : decode cX2_explains 8 = .ok (.invokestatic 109, 3) := by decide +kernel
theorem dX2_explains_11 : decode cX2_explains 11 = .ok (.ifCond .ne 6, 3) := by decide +kernel
theorem dX2_explains_14 : decode cX2_explains 14 = .ok (.bipush (-2), 2) := by decide +kernel
theorem dX2_explains_16 : decode cX2_explains 16 = .ok (.ireturn, 1) := by decide +kernel
theorem dX2_explains_17 : decode cX2_explains 17 = .ok (.aload_n 0, 1) := by decide +kernel
theorem dX2_explains_18 : decode cX2_explains 18 = .ok (.getfield 42, 3) := by decide +kernel
theorem dX2_explains_21 : decode cX2_explains 21 = .ok (.iload_n 1, 1) := by decide +kernel
theorem dX2_explains_22 : decode cX2_explains 22 = .ok (.aload_n 0, 1) := by decide +kernel
theorem dX2_explains_23 : decode cX2_explains 23 = .ok (.invokevirtual 120, 3) := by decide +kernel
theorem dX2_explains_26 : decode cX2_explains 26 = .ok (.aload_n 0, 1) := by decide +kernel
theorem dX2_explains_27 : decode cX2_explains 27 = .ok (.iconst 2, 1) := by decide +kernel
theorem dX2_explains_28 : decode cX2_explains 28 = .ok (.invokevirtual 123, 3) := by decide +kernel
theorem dX2_explains_31 : decode cX2_explains 31 = .ok (.invokevirtual 126, 3) := by decide +kernel
theorem dX2_explains_34 : decode cX2_explains 34 = .ok (.invokestatic 82, 3) := by decide +kernel
theorem dX2_explains_37 : decode cX2_explains 37 = .ok (.ireturn, 1) := by decide +kernel
set_option maxRecDepth 20000 in
theorem ggX2_least_X2_lookAtCodes : GoodIn wsX2_least wsX2_lookAtCodes := goodIn_r _ [7, 1, 8, 9, 10, 6, 11, 12, 13, 14, 15, 16, 17, 18, 19, 20, 21, 22, 23, 24, 25, 26, 27, 28, 29, 30, 31, 32, 33, 34, 35, 36, 37, 38, 39, 40, 41, 42, 43, 44, 45, 46, 47, 48, 49, 50, 51, 52, 53, 54, 55, 56, 57, 58, 59, 60, 61, 62, 63, 77, 78, 79, 80, 81, 82, 83, 84, 85, 86, 87, 88, 89, 90, 91, 92, 93, 94, 64, 65, 66, 67, 68, 69, 70, 71, 72, 73, 74, 75, 76] (by decide +kernel) (by decide +kernel)
set_option maxRecDepth 20000 in
theorem gX2_least_X2_lookAtCodes : GoodIn wsX2_least (wsV RX2 129 RX2 yX2_lookAtCodes wsX2_lookAtCodes) := goodIn_app (goodIn_of _ (by decide +kernel)) ggX2_least_X2_lookAtCodes
theorem dX2_least_0 : decode cX2_least 0 = .ok (.aload_n 0, 1) := by decide +kernel
theorem dX2_least_1 : decode cX2_least 1 = .ok (.invokevirtual 129, 3) := by decide +kernel
theorem dX2_least_4 : decode cX2_least 4 = .ok (.aload_n 0, 1) := by decide +kernel
theorem dX2_least_5 : decode cX2_least 5 = .ok (.getfield 42, 3) := by decide +kernel
theorem dX2_least_8 : decode cX2_least 8 = .ok (.getfield 132, 3) := by decide +kernel
theorem dX2_least_11 : decode cX2_least 11 = .ok (.ireturn, 1) := by decide +kernel
set_option maxRecDepth 20000 in
theorem ggX2_leastAt_X2_lookAtCodes : GoodIn wsX2_leastAt wsX2_lookAtCodes := goodIn_r _ [8, 1, 9, 10, 11, 7, 12, 13, 14, 15, 16, 17, 18, 19, 20, 21, 22, 23, 24, 25, 26, 27, 28, 29, 30, 31, 32, 33, 34, 35, 36, 37, 38, 39, 40, 41, 42, 43, 44, 45, 46, 47, 48, 49, 50, 51, 52, 53, 54, 55, 56, 57, 58, 59, 60, 61, 62, 63, 64, 78, 79, 80, 81, 82, 83, 84, 85, 86, 87, 88, 89, 90, 91, 92, 93, 94, 95, 65, 66, 67, 68, 69, 70, 71, 72, 73, 74, 75, 76, 77] (by decide +kernel) (by decide +kernel)
set_option maxRecDepth 20000 in
theorem gX2_leastAt_X2_lookAtCodes : GoodIn wsX2_leastAt (wsV RX2 129 RX2 yX2_lookAtCodes wsX2_lookAtCodes) := goodIn_app (goodIn_of _ (by decide +kernel)) ggX2_leastAt_X2_lookAtCodes
set_option maxRecDepth 20000 in
theorem ggX2_leastAt_X2_isWithin : GoodIn wsX2_leastAt wsX2_isWithin := goodIn_r _ [22] (by decide +kernel) (by decide +kernel)
set_option maxRecDepth 20000 in
theorem gX2_leastAt_X2_isWithin : GoodIn wsX2_leastAt (va_wsS RX2 46 yX2_isWithin wsX2_isWithin) := goodIn_app (goodIn_of _ (by decide +kernel)) ggX2_leastAt_X2_isWithin
theorem dX2_leastAt_0 : decode cX2_leastAt 0 = .ok (.aload_n 0, 1) := by decide +kernel
theorem dX2_leastAt_1 : decode cX2_leastAt 1 = .ok (.invokevirtual 129, 3) := by decide +kernel
theorem dX2_leastAt_4 : decode cX2_leastAt 4 = .ok (.iload_n 1, 1) := by decide +kernel
theorem dX2_leastAt_5 : decode cX2_leastAt 5 = .ok (.iconst 0, 1) := by decide +kernel
theorem dX2_leastAt_6 : decode cX2_leastAt 6 = .ok (.aload_n 0, 1) := by decide +kernel
theorem dX2_leastAt_7 : decode cX2_leastAt 7 = .ok (.getfield 42, 3) := by decide +kernel
theorem dX2_leastAt_10 : decode cX2_leastAt 10 = .ok (.getfield 132, 3) := by decide +kernel
theorem dX2_leastAt_13 : decode cX2_leastAt 13 = .ok (.iconst 1, 1) := by decide +kernel
theorem dX2_leastAt_14 : decode cX2_leastAt 14 = .ok (.isub, 1) := by decide +kernel
theorem dX2_leastAt_15 : decode cX2_leastAt 15 = .ok (.invokestatic 46, 3) := by decide +kernel
theorem dX2_leastAt_18 : decode cX2_leastAt 18 = .ok (.ifCond .eq 15, 3) := by decide +kernel
theorem dX2_leastAt_21 : decode cX2_leastAt 21 = .ok (.aload_n 0, 1) := by decide +kernel
theorem dX2_leastAt_22 : decode cX2_leastAt 22 = .ok (.getfield 42, 3) := by decide +kernel
theorem dX2_leastAt_25 : decode cX2_leastAt 25 = .ok (.getfield 135, 3) := by decide +kernel
theorem dX2_leastAt_28 : decode cX2_leastAt 28 = .ok (.iload_n 1, 1) := by decide +kernel
theorem dX2_leastAt_29 : decode cX2_leastAt 29 = .ok (.iaload, 1) := by decide +kernel
theorem dX2_leastAt_30 : decode cX2_leastAt 30 = .ok (.goto 4, 3) := by decide +kernel
theorem dX2_leastAt_33 : decode cX2_leastAt 33 = .ok (.iconst (-1), 1) := by decide +kernel
theorem dX2_leastAt_34 : decode cX2_leastAt 34 = .ok (.ireturn, 1) := by decide +kernel
set_option maxRecDepth 20000 in
theorem ggX2_plan_X2_lookAtCodes : GoodIn wsX2_plan wsX2_lookAtCodes := goodIn_r _ [6, 1, 7, 8, 9, 5, 10, 11, 12, 13, 14, 15, 16, 17, 18, 19, 20, 21, 22, 23, 24, 25, 26, 27, 28, 29, 30, 31, 32, 33, 34, 35, 36, 37, 38, 39, 40, 41, 42, 43, 44, 45, 46, 47, 48, 49, 50, 51, 52, 53, 78, 79, 80, 81, 82, 83, 84, 85, 86, 87, 88, 89, 90, 91, 92, 93, 94, 95, 96, 97, 98, 99, 100, 101, 102, 103, 104, 105, 106, 107, 108, 109, 110, 111, 112, 113, 114, 115, 116, 117] (by decide +kernel) (by decide +kernel)
set_option maxRecDepth 20000 in
theorem gX2_plan_X2_lookAtCodes : GoodIn wsX2_plan (wsV RX2 129 RX2 yX2_lookAtCodes wsX2_lookAtCodes) := goodIn_app (goodIn_of _ (by decide +kernel)) ggX2_plan_X2_lookAtCodes
set_option maxRecDepth 20000 in
theorem ggX2_plan_X1_planSum : GoodIn wsX2_plan wsX1_planSum := goodIn_r _ [57, 40, 58, 59, 60, 61, 29, 62, 35, 33, 63, 64, 65, 66, 67, 41, 68, 69, 70, 71, 72, 73, 74, 75, 76, 77, 42, 43, 44, 45, 46, 47, 48, 105, 106, 107, 108, 109, 110, 111, 112, 113, 114, 115, 116, 117] (by decide +kernel) (by decide +kernel)
set_option maxRecDepth 20000 in
theorem gX2_plan_X1_planSum : GoodIn wsX2_plan (wsV RX2 138 RX1 yX1_planSum wsX1_planSum) := goodIn_app (goodIn_of _ (by decide +kernel)) ggX2_plan_X1_planSum
theorem dX2_plan_0 : decode cX2_plan 0 = .ok (.aload_n 0, 1) := by decide +kernel
theorem dX2_plan_1 : decode cX2_plan 1 = .ok (.invokevirtual 129, 3) := by decide +kernel
theorem dX2_plan_4 : decode cX2_plan 4 = .ok (.aload_n 0, 1) := by decide +kernel
theorem dX2_plan_5 : decode cX2_plan 5 = .ok (.getfield 42, 3) := by decide +kernel
theorem dX2_plan_8 : decode cX2_plan 8 = .ok (.invokevirtual 138, 3) := by decide +kernel
