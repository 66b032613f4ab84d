theorem dX3_doesExplain_102 : decode cX3_doesExplain 102 = .ok (.iconst 1, 1) := by decide +kernel
theorem dX3_doesExplain_103 : decode cX3_doesExplain 103 = .ok (.goto 4, 3) := by decide +kernel
theorem dX3_doesExplain_106 : decode cX3_doesExplain 106 = .ok (.iconst 0, 1) := by decide +kernel
theorem dX3_doesExplain_107 : decode cX3_doesExplain 107 = .ok (.istore_n 3, 1) := by decide +kernel
theorem dX3_doesExplain_108 : decode cX3_doesExplain 108 = .ok (.iinc 4 1, 3) := by decide +kernel
theorem dX3_doesExplain_111 : decode cX3_doesExplain 111 = .ok (.goto (-66), 3) := by decide +kernel
theorem dX3_doesExplain_114 : decode cX3_doesExplain 114 = .ok (.iload_n 3, 1) := by decide +kernel
theorem dX3_doesExplain_115 : decode cX3_doesExplain 115 = .ok (.ireturn, 1) := by decide +kernel
set_option maxRecDepth 20000 in
theorem ggX3_explains_X3_in : GoodIn wsX3_explains wsX3_in := goodIn_r _ [5] (by decide +kernel) (by decide +kernel)
set_option maxRecDepth 20000 in
theorem gX3_explains_X3_in : GoodIn wsX3_explains (va_wsS RX3 96 yX3_in wsX3_in) := goodIn_app (goodIn_of _ (by decide +kernel)) ggX3_explains_X3_in
set_option maxRecDepth 20000 in
theorem ggX3_explains_X3_doesExplain : GoodIn wsX3_explains wsX3_doesExplain := goodIn_r _ [9, 1, 10, 11, 12, 13, 14, 15, 16, 17, 18, 19, 20, 21, 22, 23, 24, 25, 26, 27, 28, 29, 30, 31, 32, 33, 34, 35, 36, 37, 38, 39, 40, 41, 42, 43, 44, 45, 46] (by decide +kernel) (by decide +kernel)
set_option maxRecDepth 20000 in
theorem gX3_explains_X3_doesExplain : GoodIn wsX3_explains (wsV RX3 144 RX3 yX3_doesExplain wsX3_doesExplain) := goodIn_app (goodIn_of _ (by decide +kernel)) ggX3_explains_X3_doesExplain
theorem dX3_explains_0 : decode cX3_explains 0 = .ok (.iload_n 1, 1) := by decide +kernel
theorem dX3_explains_1 : decode cX3_explains 1 = .ok (.iconst 0, 1) := by decide +kernel
theorem dX3_explains_2 : decode cX3_explains 2 = .ok (.iconst 1, 1) := by decide +kernel
theorem dX3_explains_3 : decode cX3_explains 3 = .ok (.aload_n 0, 1) := by decide +kernel
theorem dX3_explains_4 : decode cX3_explains 4 = .ok (.getfield 141, 3) := by decide +kernel
theorem dX3_explains_7 : decode cX3_explains 7 = .ok (.ishl, 1) := by decide +kernel
theorem dX3_explains_8 : decode cX3_explains 8 = .ok (.iconst 1, 1) := by decide +kernel
theorem dX3_explains_9 : decode cX3_explains 9 = .ok (.isub, 1) := by decide +kernel
theorem dX3_explains_10 : decode cX3_explains 10 = .ok (.invokestatic 96, 3) := by decide +kernel
theorem dX3_explains_13 : decode cX3_explains 13 = .ok (.ifCond .ne 8, 3) := by decide +kernel
theorem dX3_explains_16 : decode cX3_explains 16 = .ok (.bipush (-2), 2) := by decide +kernel
theorem dX3_explains_18 : decode cX3_explains 18 = .ok (.goto 16, 3) := by decide +kernel
theorem dX3_explains_21 : decode cX3_explains 21 = .ok (.aload_n 0, 1) := by decide +kernel
theorem dX3_explains_22 : decode cX3_explains 22 = .ok (.iload_n 1, 1) := by decide +kernel
theorem dX3_explains_23 : decode cX3_explains 23 = .ok (.invokevirtual 144, 3) := by decide +kernel
theorem dX3_explains_26 : decode cX3_explains 26 = .ok (.ifCond .eq 7, 3) := by decide +kernel
theorem dX3_explains_29 : decode cX3_explains 29 = .ok (.iconst 1, 1) := by decide +kernel
theorem dX3_explains_30 : decode cX3_explains 30 = .ok (.goto 4, 3) := by decide +kernel
theorem dX3_explains_33 : decode cX3_explains 33 = .ok (.iconst 0, 1) := by decide +kernel
theorem dX3_explains_34 : decode cX3_explains 34 = .ok (.ireturn, 1) := by decide +kernel
theorem dX3_many_0 : decode cX3_many 0 = .ok (.iconst 0, 1) := by decide +kernel
theorem dX3_many_1 : decode cX3_many 1 = .ok (.istore_n 1, 1) := by decide +kernel
theorem dX3_many_2 : decode cX3_many 2 = .ok (.iload_n 0, 1) := by decide +kernel
theorem dX3_many_3 : decode cX3_many 3 = .ok (.istore_n 2, 1) := by decide +kernel
theorem dX3_many_4 : decode cX3_many 4 = .ok (.iload_n 2, 1) := by decide +kernel
theorem dX3_many_5 : decode cX3_many 5 = .ok (.ifCond .le 16, 3) := by decide +kernel
theorem dX3_many_8 : decode cX3_many 8 = .ok (.iload_n 1, 1) := by decide +kernel
theorem dX3_many_9 : decode cX3_many 9 = .ok (.iload_n 2, 1) := by decide +kernel
theorem dX3_many_10 : decode cX3_many 10 = .ok (.iconst 1, 1) := by decide +kernel
theorem dX3_many_11 : decode cX3_many 11 = .ok (.iand, 1) := by decide +kernel
theorem dX3_many_12 : decode cX3_many 12 = .ok (.iadd, 1) := by decide +kernel
theorem dX3_many_13 : decode cX3_many 13 = .ok (.istore_n 1, 1) := by decide +kernel
theorem dX3_many_14 : decode cX3_many 14 = .ok (.iload_n 2, 1) := by decide +kernel
theorem dX3_many_15 : decode cX3_many 15 = .ok (.iconst 1, 1) := by decide +kernel
theorem dX3_many_16 : decode cX3_many 16 = .ok (.ishr, 1) := by decide +kernel
theorem dX3_many_17 : decode cX3_many 17 = .ok (.istore_n 2, 1) := by decide +kernel
theorem dX3_many_18 : decode cX3_many 18 = .ok (.goto (-14), 3) := by decide +kernel
theorem dX3_many_21 : decode cX3_many 21 = .ok (.iload_n 1, 1) := by decide +kernel
theorem dX3_many_22 : decode cX3_many 22 = .ok (.ireturn, 1) := by decide +kernel
set_option maxRecDepth 20000 in
theorem ggX3_findLeast_X3_doesExplain : GoodIn wsX3_findLeast wsX3_doesExplain := goodIn_r _ [8, 2, 9, 10, 11, 12, 16, 17, 18, 19, 20, 21, 22, 23, 24, 25, 26, 27, 28, 29, 30, 31, 32, 33, 34, 35, 36, 37, 38, 39, 40, 41, 42, 43, 44, 45, 46, 47, 48] (by decide +kernel) (by decide +kernel)
set_option maxRecDepth 20000 in
theorem gX3_findLeast_X3_doesExplain : GoodIn wsX3_findLeast (wsV RX3 144 RX3 yX3_doesExplain wsX3_doesExplain) := goodIn_app (goodIn_of _ (by decide +kernel)) ggX3_findLeast_X3_doesExplain
set_option maxRecDepth 20000 in
theorem ggX3_findLeast_X3_many : GoodIn wsX3_findLeast wsX3_many := goodIn_r _ [15] (by decide +kernel) (by decide +kernel)
set_option maxRecDepth 20000 in
theorem gX3_findLeast_X3_many : GoodIn wsX3_findLeast (va_wsS RX3 150 yX3_many wsX3_many) := goodIn_app (goodIn_of _ (by decide +kernel)) ggX3_findLeast_X3_many
theorem dX3_findLeast_0 : decode cX3_findLeast 0 = .ok (.aload_n 0, 1) := by decide +kernel
theorem dX3_findLeast_1 : decode cX3_findLeast 1 = .ok (.iconst 0, 1) := by decide +kernel
theorem dX3_findLeast_2 : decode cX3_findLeast 2 = .ok (.putfield 147, 3) := by decide +kernel
theorem dX3_findLeast_5 : decode cX3_findLeast 5 = .ok (.iconst 0, 1) := by decide +kernel
theorem dX3_findLeast_6 : decode cX3_findLeast 6 = .ok (.istore_n 1, 1) := by decide +kernel
theorem dX3_findLeast_7 : decode cX3_findLeast 7 = .ok (.iconst 0, 1) := by decide +kernel
theorem dX3_findLeast_8 : decode cX3_findLeast 8 = .ok (.istore_n 2, 1) := by decide +kernel
theorem dX3_findLeast_9 : decode cX3_findLeast 9 = .ok (.iload_n 2, 1) := by decide +kernel
theorem dX3_findLeast_10 : decode cX3_findLeast 10 = .ok (.iconst 1, 1) := by decide +kernel
theorem dX3_findLeast_11 : decode cX3_findLeast 11 = .ok (.aload_n 0, 1) := by decide +kernel
theorem dX3_findLeast_12 : decode cX3_findLeast 12 = .ok (.getfield 141, 3) := by decide +kernel
theorem dX3_findLeast_15 : decode cX3_findLeast 15 = .ok (.ishl, 1) := by decide +kernel
theorem dX3_findLeast_16 : decode cX3_findLeast 16 = .ok (.if_icmp .ge 93, 3) := by decide +kernel
theorem dX3_findLeast_19 : decode cX3_findLeast 19 = .ok (.aload_n 0, 1) := by decide +kernel
theorem dX3_findLeast_20 : decode cX3_findLeast 20 = .ok (.iload_n 2, 1) := by decide +kernel
theorem dX3_findLeast_21 : decode cX3_findLeast 21 = .ok (.invokevirtual 144, 3) := by decide +kernel
theorem dX3_findLeast_24 : decode cX3_findLeast 24 = .ok (.ifCond .eq 79, 3) := by decide +kernel
theorem dX3_findLeast_27 : decode cX3_findLeast 27 = .ok (.aload_n 0, 1) := by decide +kernel
theorem dX3_findLeast_28 : decode cX3_findLeast 28 = .ok (.getfield 147, 3) := by decide +kernel
theorem dX3_findLeast_31 : decode cX3_findLeast 31 = .ok (.ifCond .eq 11, 3) := by decide +kernel
theorem dX3_findLeast_34 : decode cX3_findLeast 34 = .ok (.iload_n 2, 1) := by decide +kernel
theorem dX3_findLeast_35 : decode cX3_findLeast 35 = .ok (.invokestatic 150, 3) := by decide +kernel
theorem dX3_findLeast_38 : decode cX3_findLeast 38 = .ok (.iload_n 1, 1) := by decide +kernel
theorem dX3_findLeast_39 : decode cX3_findLeast 39 = .ok (.if_icmp .gt 64, 3) := by decide +kernel
theorem dX3_findLeast_42 : decode cX3_findLeast 42 = .ok (.aload_n 0, 1) := by decide +kernel
theorem dX3_findLeast_43 : decode cX3_findLeast 43 = .ok (.aload_n 0, 1) := by decide +kernel
theorem dX3_findLeast_44 : decode cX3_findLeast 44 = .ok (.getfield 147, 3) := by decide +kernel
theorem dX3_findLeast_47 : decode cX3_findLeast 47 = .ok (.ifCond .le 15, 3) := by decide +kernel
theorem dX3_findLeast_50 : decode cX3_findLeast 50 = .ok (.iload_n 2, 1) := by decide +kernel
theorem dX3_findLeast_51 : decode cX3_findLeast 51 = .ok (.invokestatic 150, 3) := by decide +kernel
theorem dX3_findLeast_54 : decode cX3_findLeast 54 = .ok (.iload_n 1, 1) := by decide +kernel
theorem dX3_findLeast_55 : decode cX3_findLeast 55 = .ok (.if_icmp .ge 7, 3) := by decide +kernel
theorem dX3_findLeast_58 : decode cX3_findLeast 58 = .ok (.iconst 0, 1) := by decide +kernel
theorem dX3_findLeast_59 : decode cX3_findLeast 59 = .ok (.goto 7, 3) := by decide +kernel
theorem dX3_findLeast_62 : decode cX3_findLeast 62 = .ok (.aload_n 0, 1) := by decide +kernel
theorem dX3_findLeast_63 : decode cX3_findLeast 63 = .ok (.getfield 147, 3) := by decide +kernel
theorem dX3_findLeast_66 : decode cX3_findLeast 66 = .ok (.putfield 147, 3) := by decide +kernel
theorem dX3_findLeast_69 : decode cX3_findLeast 69 = .ok (.iload_n 2, 1) := by decide +kernel
theorem dX3_findLeast_70 : decode cX3_findLeast 70 = .ok (.invokestatic 150, 3) := by decide +kernel
theorem dX3_findLeast_73 : decode cX3_findLeast 73 = .ok (.istore_n 1, 1) := by decide +kernel
theorem dX3_findLeast_74 : decode cX3_findLeast 74 = .ok (.aload_n 0, 1) := by decide +kernel
theorem dX3_findLeast_75 : decode cX3_findLeast 75 = .ok (.getfield 147, 3) := by decide +kernel
theorem dX3_findLeast_78 : decode cX3_findLeast 78 = .ok (.bipush 10, 2) := by decide +kernel
theorem dX3_findLeast_80 : decode cX3_findLeast 80 = .ok (.if_icmp .ge 23, 3) := by decide +kernel
theorem dX3_findLeast_83 : decode cX3_findLeast 83 = .ok (.aload_n 0, 1) := by decide +kernel
theorem dX3_findLeast_84 : decode cX3_findLeast 84 = .ok (.getfield 84, 3) := by decide +kernel
theorem dX3_findLeast_87 : decode cX3_findLeast 87 = .ok (.aload_n 0, 1) := by decide +kernel
theorem dX3_findLeast_88 : decode cX3_findLeast 88 = .ok (.getfield 147, 3) := by decide +kernel
theorem dX3_findLeast_91 : decode cX3_findLeast 91 = .ok (.iload_n 2, 1) := by decide +kernel
theorem dX3_findLeast_92 : decode cX3_findLeast 92 = .ok (.iastore, 1) := by decide +kernel
theorem dX3_findLeast_93 : decode cX3_findLeast 93 = .ok (.aload_n 0, 1) := by decide +kernel
theorem dX3_findLeast_94 : decode cX3_findLeast 94 = .ok (.dup, 1) := by decide +kernel
theorem dX3_findLeast_95 : decode cX3_findLeast 95 = .ok (.getfield 147, 3) := by decide +kernel
theorem dX3_findLeast_98 : decode cX3_findLeast 98 = .ok (.iconst 1, 1) := by decide +kernel
theorem dX3_findLeast_99 : decode cX3_findLeast 99 = .ok (.iadd, 1) := by decide +kernel
theorem dX3_findLeast_100 : decode cX3_findLeast 100 = .ok (.putfield 147, 3) := by decide +kernel
theorem dX3_findLeast_103 : decode cX3_findLeast 103 = .ok (.iinc 2 1, 3) := by decide +kernel
theorem dX3_findLeast_106 : decode cX3_findLeast 106 = .ok (.goto (-97), 3) := by decide +kernel
theorem dX3_findLeast_109 : decode cX3_findLeast 109 = .ok (.return_, 1) := by decide +kernel
set_option maxRecDepth 20000 in
theorem ggX3_least_X3_findLeast : GoodIn wsX3_least wsX3_findLeast := goodIn_r _ [6, 1, 7, 8, 9, 10, 11, 5, 12, 13, 14, 15, 16, 17, 18, 19, 20, 21, 22, 23, 24, 25, 26, 27, 28, 29, 30, 31, 32, 33, 34, 35, 36, 37, 38, 39, 40, 41, 42, 43, 44, 45, 46, 47, 48, 49, 50, 51, 52] (by decide +kernel) (by decide +kernel)
set_option maxRecDepth 20000 in
theorem gX3_least_X3_findLeast : GoodIn wsX3_least (wsV RX3 154 RX3 yX3_findLeast wsX3_findLeast) := goodIn_app (goodIn_of _ (by decide +kernel)) ggX3_least_X3_findLeast
theorem dX3_least_0 : decode cX3_least 0 = .ok (.aload_n 0, 1) := by decide +kernel
theorem dX3_least_1 : decode cX3_least 1 = .ok (.invokevirtual 154, 3) := by decide +kernel
theorem dX3_least_4 : decode cX3_least 4 = .ok (.aload_n 0, 1) := by decide +kernel
theorem dX3_least_5 : decode cX3_least 5 = .ok (.getfield 147, 3) := by decide +kernel
theorem dX3_least_8 : decode cX3_least 8 = .ok (.ireturn, 1) := by decide +kernel
set_option maxRecDepth 20000 in
theorem ggX3_leastAt_X3_findLeast : GoodIn wsX3_leastAt wsX3_findLeast := goodIn_r _ [7, 1, 8, 2, 9, 10, 11, 6, 12, 13, 14, 15, 16, 17, 18, 19, 23, 24, 25, 26, 27, 28, 29, 30, 31, 32, 33, 34, 35, 36, 37, 38, 39, 40, 41, 42, 43, 44, 45, 46, 47, 48, 49, 50, 51, 52, 53, 54, 55] (by decide +kernel) (by decide +kernel)
set_option maxRecDepth 20000 in
theorem gX3_leastAt_X3_findLeast : GoodIn wsX3_leastAt (wsV RX3 154 RX3 yX3_findLeast wsX3_findLeast) := goodIn_app (goodIn_of _ (by decide +kernel)) ggX3_leastAt_X3_findLeast
set_option maxRecDepth 20000 in
theorem ggX3_leastAt_X3_in : GoodIn wsX3_leastAt wsX3_in := goodIn_r _ [22] (by decide +kernel) (by decide +kernel)
set_option maxRecDepth 20000 in
theorem gX3_leastAt_X3_in : GoodIn wsX3_leastAt (va_wsS RX3 96 yX3_in wsX3_in) := goodIn_app (goodIn_of _ (by decide +kernel)) ggX3_leastAt_X3_in
theorem dX3_leastAt_0 : decode cX3_leastAt 0 = .ok (.aload_n 0, 1) := by decide +kernel
theorem dX3_leastAt_1 : decode cX3_leastAt 1 = .ok (.invokevirtual 154, 3) := by decide +kernel
theorem dX3_leastAt_4 : decode cX3_leastAt 4 = .ok (.iload_n 1, 1) := by decide +kernel
theorem dX3_leastAt_5 : decode cX3_leastAt 5 = .ok (.iconst 0, 1) := by decide +kernel
theorem dX3_leastAt_6 : decode cX3_leastAt 6 = .ok (.aload_n 0, 1) := by decide +kernel
theorem dX3_leastAt_7 : decode cX3_leastAt 7 = .ok (.getfield 147, 3) := by decide +kernel
theorem dX3_leastAt_10 : decode cX3_leastAt 10 = .ok (.iconst 1, 1) := by decide +kernel
theorem dX3_leastAt_11 : decode cX3_leastAt 11 = .ok (.isub, 1) := by decide +kernel
theorem dX3_leastAt_12 : decode cX3_leastAt 12 = .ok (.invokestatic 96, 3) := by decide +kernel
theorem dX3_leastAt_15 : decode cX3_leastAt 15 = .ok (.ifCond .eq 12, 3) := by decide +kernel
theorem dX3_leastAt_18 : decode cX3_leastAt 18 = .ok (.aload_n 0, 1) := by decide +kernel
theorem dX3_leastAt_19 : decode cX3_leastAt 19 = .ok (.getfield 84, 3) := by decide +kernel
theorem dX3_leastAt_22 : decode cX3_leastAt 22 = .ok (.iload_n 1, 1) := by decide +kernel
theorem dX3_leastAt_23 : decode cX3_leastAt 23 = .ok (.iaload, 1) := by decide +kernel
theorem dX3_leastAt_24 : decode cX3_leastAt 24 = .ok (.goto 4, 3) := by decide +kernel
theorem dX3_leastAt_27 : decode cX3_leastAt 27 = .ok (.iconst (-1), 1) := by decide +kernel
theorem dX3_leastAt_28 : decode cX3_leastAt 28 = .ok (.ireturn, 1) := by decide +kernel
theorem dX3_with_0 : decode cX3_with 0 = .ok (.iconst 0, 1) := by decide +kernel
theorem dX3_with_1 : decode cX3_with 1 = .ok (.istore_n 3, 1) := by decide +kernel
theorem dX3_with_2 : decode cX3_with 2 = .ok (.iconst 0, 1) := by decide +kernel
theorem dX3_with_3 : decode cX3_with 3 = .ok (.istore 4, 2) := by decide +kernel
theorem dX3_with_5 : decode cX3_with 5 = .ok (.iload 4, 2) := by decide +kernel
theorem dX3_with_7 : decode cX3_with 7 = .ok (.aload_n 0, 1) := by decide +kernel
theorem dX3_with_8 : decode cX3_with 8 = .ok (.getfield 147, 3) := by decide +kernel
theorem dX3_with_11 : decode cX3_with 11 = .ok (.if_icmp .ge 45, 3) := by decide +kernel
theorem dX3_with_14 : decode cX3_with 14 = .ok (.iload_n 3, 1) := by decide +kernel
theorem dX3_with_15 : decode cX3_with 15 = .ok (.iload_n 1, 1) := by decide +kernel
theorem dX3_with_16 : decode cX3_with 16 = .ok (.iload 4, 2) := by decide +kernel
theorem dX3_with_18 : decode cX3_with 18 = .ok (.ishr, 1) := by decide +kernel
theorem dX3_with_19 : decode cX3_with 19 = .ok (.iconst 1, 1) := by decide +kernel
theorem dX3_with_20 : decode cX3_with 20 = .ok (.iand, 1) := by decide +kernel
theorem dX3_with_21 : decode cX3_with 21 = .ok (.iconst 1, 1) := by decide +kernel
theorem dX3_with_22 : decode cX3_with 22 = .ok (.if_icmp .ne 25, 3) := by decide +kernel
theorem dX3_with_25 : decode cX3_with 25 = .ok (.aload_n 0, 1) := by decide +kernel
theorem dX3_with_26 : decode cX3_with 26 = .ok (.getfield 84, 3) := by decide +kernel
theorem dX3_with_29 : decode cX3_with 29 = .ok (.iload 4, 2) := by decide +kernel
theorem dX3_with_31 : decode cX3_with 31 = .ok (.iaload, 1) := by decide +kernel
theorem dX3_with_32 : decode cX3_with 32 = .ok (.iload_n 2, 1) := by decide +kernel
theorem dX3_with_33 : decode cX3_with 33 = .ok (.ishr, 1) := by decide +kernel
theorem dX3_with_34 : decode cX3_with 34 = .ok (.iconst 1, 1) := by decide +kernel
theorem dX3_with_35 : decode cX3_with 35 = .ok (.iand, 1) := by decide +kernel
theorem dX3_with_36 : decode cX3_with 36 = .ok (.iconst 1, 1) := by decide +kernel
theorem dX3_with_37 : decode cX3_with 37 = .ok (.if_icmp .ne 10, 3) := by decide +kernel
theorem dX3_with_40 : decode cX3_with 40 = .ok (.iconst 1, 1) := by decide +kernel
theorem dX3_with_41 : decode cX3_with 41 = .ok (.iload 4, 2) := by decide +kernel
theorem dX3_with_43 : decode cX3_with 43 = .ok (.ishl, 1) := by decide +kernel
theorem dX3_with_44 : decode cX3_with 44 = .ok (.goto 4, 3) := by decide +kernel
theorem dX3_with_47 : decode cX3_with 47 = .ok (.iconst 0, 1) := by decide +kernel
theorem dX3_with_48 : decode cX3_with 48 = .ok (.ior, 1) := by decide +kernel
theorem dX3_with_49 : decode cX3_with 49 = .ok (.istore_n 3, 1) := by decide +kernel
theorem dX3_with_50 : decode cX3_with 50 = .ok (.iinc 4 1, 3) := by decide +kernel
theorem dX3_with_53 : decode cX3_with 53 = .ok (.goto (-48), 3) := by decide +kernel
theorem dX3_with_56 : decode cX3_with 56 = .ok (.iload_n 3, 1) := by decide +kernel
theorem dX3_with_57 : decode cX3_with 57 = .ok (.ireturn, 1) := by decide +kernel
set_option maxRecDepth 20000 in
theorem ggX3_plans_X3_many : GoodIn wsX3_plans wsX3_many := goodIn_r _ [9] (by decide +kernel) (by decide +kernel)
set_option maxRecDepth 20000 in
theorem gX3_plans_X3_many : GoodIn wsX3_plans (va_wsS RX3 150 yX3_many wsX3_many) := goodIn_app (goodIn_of _ (by decide +kernel)) ggX3_plans_X3_many
set_option maxRecDepth 20000 in
theorem ggX3_plans_X3_with : GoodIn wsX3_plans wsX3_with := goodIn_r _ [13, 1, 14, 15, 16, 17, 18, 19, 20, 21, 22, 23, 24, 25, 26, 27, 28, 29, 30, 31, 32, 33, 34, 35, 36, 37, 38, 39, 40, 41, 42, 43, 44, 45, 46, 47] (by decide +kernel) (by decide +kernel)
set_option maxRecDepth 20000 in
theorem gX3_plans_X3_with : GoodIn wsX3_plans (wsV RX3 157 RX3 yX3_with wsX3_with) := goodIn_app (goodIn_of _ (by decide +kernel)) ggX3_plans_X3_with
theorem dX3_plans_0 : decode cX3_plans 0 = .ok (.iconst 0, 1) := by decide +kernel
theorem dX3_plans_1 : decode cX3_plans 1 = .ok (.istore_n 1, 1) := by decide +kernel
theorem dX3_plans_2 : decode cX3_plans 2 = .ok (.iload_n 1, 1) := by decide +kernel
theorem dX3_plans_3 : decode cX3_plans 3 = .ok (.iconst 1, 1) := by decide +kernel
theorem dX3_plans_4 : decode cX3_plans 4 = .ok (.aload_n 0, 1) := by decide +kernel
theorem dX3_plans_5 : decode cX3_plans 5 = .ok (.getfield 147, 3) := by decide +kernel
theorem dX3_plans_8 : decode cX3_plans 8 = .ok (.ishl, 1) := by decide +kernel
theorem dX3_plans_9 : decode cX3_plans 9 = .ok (.if_icmp .ge 130, 3) := by decide +kernel
theorem dX3_plans_12 : decode cX3_plans 12 = .ok (.aload_n 0, 1) := by decide +kernel
theorem dX3_plans_13 : decode cX3_plans 13 = .ok (.getfield 87, 3) := by decide +kernel
theorem dX3_plans_16 : decode cX3_plans 16 = .ok (.iload_n 1, 1) := by decide +kernel
theorem dX3_plans_17 : decode cX3_plans 17 = .ok (.iconst 0, 1) := by decide +kernel
theorem dX3_plans_18 : decode cX3_plans 18 = .ok (.iastore, 1) := by decide +kernel
theorem dX3_plans_19 : decode cX3_plans 19 = .ok (.aload_n 0, 1) := by decide +kernel
theorem dX3_plans_20 : decode cX3_plans 20 = .ok (.getfield 90, 3) := by decide +kernel
theorem dX3_plans_23 : decode cX3_plans 23 = .ok (.iload_n 1, 1) := by decide +kernel
theorem dX3_plans_24 : decode cX3_plans 24 = .ok (.iconst (-1), 1) := by decide +kernel
theorem dX3_plans_25 : decode cX3_plans 25 = .ok (.iastore, 1) := by decide +kernel
theorem dX3_plans_26 : decode cX3_plans 26 = .ok (.iconst 0, 1) := by decide +kernel
theorem dX3_plans_27 : decode cX3_plans 27 = .ok (.istore_n 2, 1) := by decide +kernel
theorem dX3_plans_28 : decode cX3_plans 28 = .ok (.iload_n 2, 1) := by decide +kernel
theorem dX3_plans_29 : decode cX3_plans 29 = .ok (.aload_n 0, 1) := by decide +kernel
theorem dX3_plans_30 : decode cX3_plans 30 = .ok (.getfield 141, 3) := by decide +kernel
theorem dX3_plans_33 : decode cX3_plans 33 = .ok (.if_icmp .ge 100, 3) := by decide +kernel
theorem dX3_plans_36 : decode cX3_plans 36 = .ok (.iload_n 1, 1) := by decide +kernel
theorem dX3_plans_37 : decode cX3_plans 37 = .ok (.invokestatic 150, 3) := by decide +kernel
theorem dX3_plans_40 : decode cX3_plans 40 = .ok (.iconst 1, 1) := by decide +kernel
theorem dX3_plans_41 : decode cX3_plans 41 = .ok (.if_icmp .le 92, 3) := by decide +kernel
theorem dX3_plans_44 : decode cX3_plans 44 = .ok (.aload_n 0, 1) := by decide +kernel
theorem dX3_plans_45 : decode cX3_plans 45 = .ok (.iload_n 1, 1) := by decide +kernel
theorem dX3_plans_46 : decode cX3_plans 46 = .ok (.iload_n 2, 1) := by decide +kernel
theorem dX3_plans_47 : decode cX3_plans 47 = .ok (.invokevirtual 157, 3) := by decide +kernel
theorem dX3_plans_50 : decode cX3_plans 50 = .ok (.istore_n 3, 1) := by decide +kernel
theorem dX3_plans_51 : decode cX3_plans 51 = .ok (.iload_n 3, 1) := by decide +kernel
theorem dX3_plans_52 : decode cX3_plans 52 = .ok (.ifCond .eq 75, 3) := by decide +kernel
theorem dX3_plans_55 : decode cX3_plans 55 = .ok (.iload_n 3, 1) := by decide +kernel
theorem dX3_plans_56 : decode cX3_plans 56 = .ok (.iload_n 1, 1) := by decide +kernel
theorem dX3_plans_57 : decode cX3_plans 57 = .ok (.if_icmp .eq 70, 3) := by decide +kernel
theorem dX3_plans_60 : decode cX3_plans 60 = .ok (.aload_n 0, 1) := by decide +kernel
theorem dX3_plans_61 : decode cX3_plans 61 = .ok (.getfield 81, 3) := by decide +kernel
theorem dX3_plans_64 : decode cX3_plans 64 = .ok (.iload_n 2, 1) := by decide +kernel
theorem dX3_plans_65 : decode cX3_plans 65 = .ok (.iaload, 1) := by decide +kernel
theorem dX3_plans_66 : decode cX3_plans 66 = .ok (.iload_n 1, 1) := by decide +kernel
theorem dX3_plans_67 : decode cX3_plans 67 = .ok (.invokestatic 150, 3) := by decide +kernel
theorem dX3_plans_70 : decode cX3_plans 70 = .ok (.imul, 1) := by decide +kernel
theorem dX3_plans_71 : decode cX3_plans 71 = .ok (.aload_n 0, 1) := by decide +kernel
theorem dX3_plans_72 : decode cX3_plans 72 = .ok (.getfield 87, 3) := by decide +kernel
theorem dX3_plans_75 : decode cX3_plans 75 = .ok (.iload_n 3, 1) := by decide +kernel
theorem dX3_plans_76 : decode cX3_plans 76 = .ok (.iaload, 1) := by decide +kernel
theorem dX3_plans_77 : decode cX3_plans 77 = .ok (.iadd, 1) := by decide +kernel
theorem dX3_plans_78 : decode cX3_plans 78 = .ok (.aload_n 0, 1) := by decide +kernel
theorem dX3_plans_79 : decode cX3_plans 79 = .ok (.getfield 87, 3) := by decide +kernel
theorem dX3_plans_82 : decode cX3_plans 82 = .ok (.iload_n 1, 1) := by decide +kernel
theorem dX3_plans_83 : decode cX3_plans 83 = .ok (.iload_n 3, 1) := by decide +kernel
theorem dX3_plans_84 : decode cX3_plans 84 = .ok (.iconst (-1), 1) := by decide +kernel
theorem dX3_plans_85 : decode cX3_plans 85 = .ok (.ixor, 1) := by decide +kernel
theorem dX3_plans_86 : decode cX3_plans 86 = .ok (.iand, 1) := by decide +kernel
theorem dX3_plans_87 : decode cX3_plans 87 = .ok (.iaload, 1) := by decide +kernel
theorem dX3_plans_88 : decode cX3_plans 88 = .ok (.iadd, 1) := by decide +kernel
theorem dX3_plans_89 : decode cX3_plans 89 = .ok (.istore 4, 2) := by decide +kernel
theorem dX3_plans_91 : decode cX3_plans 91 = .ok (.aload_n 0, 1) := by decide +kernel
theorem dX3_plans_92 : decode cX3_plans 92 = .ok (.getfield 90, 3) := by decide +kernel
theorem dX3_plans_95 : decode cX3_plans 95 = .ok (.iload_n 1, 1) := by decide +kernel
theorem dX3_plans_96 : decode cX3_plans 96 = .ok (.iaload, 1) := by decide +kernel
theorem dX3_plans_97 : decode cX3_plans 97 = .ok (.iconst (-1), 1) := by decide +kernel
theorem dX3_plans_98 : decode cX3_plans 98 = .ok (.if_icmp .eq 14, 3) := by decide +kernel
theorem dX3_plans_101 : decode cX3_plans 101 = .ok (.iload 4, 2) := by decide +kernel
theorem dX3_plans_103 : decode cX3_plans 103 = .ok (.aload_n 0, 1) := by decide +kernel
theorem dX3_plans_104 : decode cX3_plans 104 = .ok (.getfield 87, 3) := by decide +kernel
theorem dX3_plans_107 : decode cX3_plans 107 = .ok (.iload_n 1, 1) := by decide +kernel
theorem dX3_plans_108 : decode cX3_plans 108 = .ok (.iaload, 1) := by decide +kernel
theorem dX3_plans_109 : decode cX3_plans 109 = .ok (.if_icmp .ge 18, 3) := by decide +kernel
theorem dX3_plans_112 : decode cX3_plans 112 = .ok (.aload_n 0, 1) := by decide +kernel
theorem dX3_plans_113 : decode cX3_plans 113 = .ok (.getfield 87, 3) := by decide +kernel
theorem dX3_plans_116 : decode cX3_plans 116 = .ok (.iload_n 1, 1) := by decide +kernel
theorem dX3_plans_117 : decode cX3_plans 117 = .ok (.iload 4, 2) := by decide +kernel
theorem dX3_plans_119 : decode cX3_plans 119 = .ok (.iastore, 1) := by decide +kernel
theorem dX3_plans_120 : decode cX3_plans 120 = .ok (.aload_n 0, 1) := by decide +kernel
theorem dX3_plans_121 : decode cX3_plans 121 = .ok (.getfield 90, 3) := by decide +kernel
theorem dX3_plans_124 : decode cX3_plans 124 = .ok (.iload_n 1, 1) := by decide +kernel
theorem dX3_plans_125 : decode cX3_plans 125 = .ok (.iload_n 2, 1) := by decide +kernel
theorem dX3_plans_126 : decode cX3_plans 126 = .ok (.iastore, 1) := by decide +kernel
theorem dX3_plans_127 : decode cX3_plans 127 = .ok (.iinc 2 1, 3) := by decide +kernel
theorem dX3_plans_130 : decode cX3_plans 130 = .ok (.goto (-102), 3) := by decide +kernel
theorem dX3_plans_133 : decode cX3_plans 133 = .ok (.iinc 1 1, 3) := by decide +kernel
theorem dX3_plans_136 : decode cX3_plans 136 = .ok (.goto (-134), 3) := by decide +kernel
theorem dX3_plans_139 : decode cX3_plans 139 = .ok (.return_, 1) := by decide +kernel
set_option maxRecDepth 20000 in
theorem ggX3_plan_X3_findLeast : GoodIn wsX3_plan wsX3_findLeast := goodIn_r _ [7, 1, 8, 9, 10, 11, 12, 6, 13, 14, 15, 16, 17, 18, 19, 20, 31, 32, 33, 34, 35, 36, 37, 38, 39, 40, 41, 42, 43, 44, 45, 46, 47, 48, 49, 50, 51, 52, 53, 54, 55, 56, 57, 58, 59, 60, 61, 62, 63] (by decide +kernel) (by decide +kernel)
set_option maxRecDepth 20000 in
theorem gX3_plan_X3_findLeast : GoodIn wsX3_plan (wsV RX3 154 RX3 yX3_findLeast wsX3_findLeast) := goodIn_app (goodIn_of _ (by decide +kernel)) ggX3_plan_X3_findLeast
set_option maxRecDepth 20000 in
theorem ggX3_plan_X3_plans : GoodIn wsX3_plan wsX3_plans := goodIn_r _ [24, 1, 2, 25, 8, 26, 18, 19, 6, 20, 27, 28, 29, 30, 9, 31, 32, 33, 34, 35, 36, 37, 38, 39, 40, 41, 42, 43, 44, 45, 46, 47, 48, 49, 50, 51, 52, 53, 54, 55, 56, 57, 58, 59, 60, 61, 62, 63] (by decide +kernel) (by decide +kernel)
set_option maxRecDepth 20000 in
theorem gX3_plan_X3_plans : GoodIn wsX3_plan (wsV RX3 160 RX3 yX3_plans wsX3_plans) := goodIn_app (goodIn_of _ (by decide +kernel)) ggX3_plan_X3_plans
theorem dX3_plan_0 : decode cX3_plan 0 = .ok (.aload_n 0, 1) := by decide +kernel
theorem dX3_plan_1 : decode cX3_plan 1 = .ok (.invokevirtual 154, 3) := by decide +kernel
theorem dX3_plan_4 : decode cX3_plan 4 = .ok (.aload_n 0, 1) := by decide +kernel
theorem dX3_plan_5 : decode cX3_plan 5 = .ok (.getfield 147, 3) := by decide +kernel
theorem dX3_plan_8 : decode cX3_plan 8 = .ok (.ifCond .ne 5, 3) := by decide +kernel
theorem dX3_plan_11 : decode cX3_plan 11 = .ok (.iconst (-1), 1) := by decide +kernel
theorem dX3_plan_12 : decode cX3_plan 12 = .ok (.ireturn, 1) := by decide +kernel
theorem dX3_plan_13 : decode cX3_plan 13 = .ok (.aload_n 0, 1) := by decide +kernel
theorem dX3_plan_14 : decode cX3_plan 14 = .ok (.invokevirtual 160, 3) := by decide +kernel
theorem dX3_plan_17 : decode cX3_plan 17 = .ok (.aload_n 0, 1) := by decide +kernel
theorem dX3_plan_18 : decode cX3_plan 18 = .ok (.getfield 87, 3) := by decide +kernel
theorem dX3_plan_21 : decode cX3_plan 21 = .ok (.iconst 1, 1) := by decide +kernel
theorem dX3_plan_22 : decode cX3_plan 22 = .ok (.aload_n 0, 1) := by decide +kernel
theorem dX3_plan_23 : decode cX3_plan 23 = .ok (.getfield 147, 3) := by decide +kernel
theorem dX3_plan_26 : decode cX3_plan 26 = .ok (.ishl, 1) := by decide +kernel
theorem dX3_plan_27 : decode cX3_plan 27 = .ok (.iconst 1, 1) := by decide +kernel
theorem dX3_plan_28 : decode cX3_plan 28 = .ok (.isub, 1) := by decide +kernel
theorem dX3_plan_29 : decode cX3_plan 29 = .ok (.iaload, 1) := by decide +kernel
theorem dX3_plan_30 : decode cX3_plan 30 = .ok (.ireturn, 1) := by decide +kernel
set_option maxRecDepth 20000 in
theorem ggX3_test_X3_findLeast : GoodIn wsX3_test wsX3_findLeast := goodIn_r _ [7, 1, 8, 9, 10, 11, 12, 6, 13, 14, 15, 16, 17, 18, 19, 20, 31, 32, 33, 34, 35, 36, 37, 38, 39, 40, 41, 42, 43, 44, 45, 46, 47, 48, 49, 50, 51, 52, 53, 54, 55, 56, 57, 58, 59, 60, 61, 62, 63] (by decide +kernel) (by decide +kernel)
set_option maxRecDepth 20000 in
theorem gX3_test_X3_findLeast : GoodIn wsX3_test (wsV RX3 154 RX3 yX3_findLeast wsX3_findLeast) := goodIn_app (goodIn_of _ (by decide +kernel)) ggX3_test_X3_findLeast
set_option maxRecDepth 20000 in
theorem ggX3_test_X3_plans : GoodIn wsX3_test wsX3_plans := goodIn_r _ [24, 1, 25, 2, 8, 26, 18, 19, 6, 20, 27, 28, 29, 30, 9, 31, 32, 33, 34, 35, 36, 37, 38, 39, 40, 41, 42, 43, 44, 45, 46, 47, 48, 49, 50, 51, 52, 53, 54, 55, 56, 57, 58, 59, 60, 61, 62, 63] (by decide +kernel) (by decide +kernel)
set_option maxRecDepth 20000 in
theorem gX3_test_X3_plans : GoodIn wsX3_test (wsV RX3 160 RX3 yX3_plans wsX3_plans) := goodIn_app (goodIn_of _ (by decide +kernel)) ggX3_test_X3_plans
theorem dX3_test_0 : decode cX3_test 0 = .ok (.aload_n 0, 1) := by decide +kernel
theorem dX3_test_1 : decode cX3_test 1 = .ok (.invokevirtual 154, 3) := by decide +kernel
theorem dX3_test_4 : decode cX3_test 4 = .ok (.aload_n 0, 1) := by decide +kernel
theorem dX3_test_5 : decode cX3_test 5 = .ok (.getfield 147, 3) := by decide +kernel
theorem dX3_test_8 : decode cX3_test 8 = .ok (.ifCond .ne 5, 3) := by decide +kernel
theorem dX3_test_11 : decode cX3_test 11 = .ok (.iconst (-1), 1) := by decide +kernel
theorem dX3_test_12 : decode cX3_test 12 = .ok (.ireturn, 1) := by decide +kernel
theorem dX3_test_13 : decode cX3_test 13 = .ok (.aload_n 0, 1) := by decide +kernel
theorem dX3_test_14 : decode cX3_test 14 = .ok (.invokevirtual 160, 3) := by decide +kernel
theorem dX3_test_17 : decode cX3_test 17 = .ok (.aload_n 0, 1) := by decide +kernel
theorem dX3_test_18 : decode cX3_test 18 = .ok (.getfield 90, 3) := by decide +kernel
theorem dX3_test_21 : decode cX3_test 21 = .ok (.iconst 1, 1) := by decide +kernel
theorem dX3_test_22 : decode cX3_test 22 = .ok (.aload_n 0, 1) := by decide +kernel
theorem dX3_test_23 : decode cX3_test 23 = .ok (.getfield 147, 3) := by decide +kernel
theorem dX3_test_26 : decode cX3_test 26 = .ok (.ishl, 1) := by decide +kernel
theorem dX3_test_27 : decode cX3_test 27 = .ok (.iconst 1, 1) := by decide +kernel
theorem dX3_test_28 : decode cX3_test 28 = .ok (.isub, 1) := by decide +kernel
theorem dX3_test_29 : decode cX3_test 29 = .ok (.iaload, 1) := by decide +kernel
theorem dX3_test_30 : decode cX3_test 30 = .ok (.ireturn, 1) := by decide +kernel
set_option maxRecDepth 20000 in
theorem ggX3_foretells_X3_isCheck : GoodIn wsX3_foretells wsX3_isCheck := goodIn_r _ [6, 7, 8, 9, 5, 10, 11, 12, 13, 14, 15, 16, 17, 18, 19, 20, 21, 22, 23, 24, 25, 26, 27, 28, 29, 30, 31, 32, 33, 34, 35, 36, 37, 38, 39, 40, 41, 42, 43] (by decide +kernel) (by decide +kernel)
set_option maxRecDepth 20000 in
theorem gX3_foretells_X3_isCheck : GoodIn wsX3_foretells (wsV RX3 100 RX3 yX3_isCheck wsX3_isCheck) := goodIn_app (goodIn_of _ (by decide +kernel)) ggX3_foretells_X3_isCheck
theorem dX3_foretells_0 : decode cX3_foretells 0 = .ok (.aload_n 0, 1) := by decide +kernel
theorem dX3_foretells_1 : decode cX3_foretells 1 = .ok (.iload_n 1, 1) := by decide +kernel
theorem dX3_foretells_2 : decode cX3_foretells 2 = .ok (.invokevirtual 100, 3) := by decide +kernel
theorem dX3_foretells_5 : decode cX3_foretells 5 = .ok (.ifCond .eq 25, 3) := by decide +kernel
theorem dX3_foretells_8 : decode cX3_foretells 8 = .ok (.aload_n 0, 1) := by decide +kernel
theorem dX3_foretells_9 : decode cX3_foretells 9 = .ok (.iload_n 2, 1) := by decide +kernel
theorem dX3_foretells_10 : decode cX3_foretells 10 = .ok (.invokevirtual 100, 3) := by decide +kernel
theorem dX3_foretells_13 : decode cX3_foretells 13 = .ok (.ifCond .eq 17, 3) := by decide +kernel
theorem dX3_foretells_16 : decode cX3_foretells 16 = .ok (.aload_n 0, 1) := by decide +kernel
theorem dX3_foretells_17 : decode cX3_foretells 17 = .ok (.getfield 56, 3) := by decide +kernel
theorem dX3_foretells_20 : decode cX3_foretells 20 = .ok (.bipush 16, 2) := by decide +kernel
theorem dX3_foretells_22 : decode cX3_foretells 22 = .ok (.iload_n 1, 1) := by decide +kernel
theorem dX3_foretells_23 : decode cX3_foretells 23 = .ok (.imul, 1) := by decide +kernel
theorem dX3_foretells_24 : decode cX3_foretells 24 = .ok (.iload_n 2, 1) := by decide +kernel
theorem dX3_foretells_25 : decode cX3_foretells 25 = .ok (.iadd, 1) := by decide +kernel
theorem dX3_foretells_26 : decode cX3_foretells 26 = .ok (.iaload, 1) := by decide +kernel
theorem dX3_foretells_27 : decode cX3_foretells 27 = .ok (.goto 5, 3) := by decide +kernel
theorem dX3_foretells_30 : decode cX3_foretells 30 = .ok (.bipush (-2), 2) := by decide +kernel
theorem dX3_foretells_32 : decode cX3_foretells 32 = .ok (.ireturn, 1) := by decide +kernel
set_option maxRecDepth 20000 in
theorem ggX3_sets_X3_isCheck : GoodIn wsX3_sets wsX3_isCheck := goodIn_r _ [6, 7, 8, 9, 5, 10, 11, 12, 13, 14, 15, 16, 17, 18, 19, 20, 21, 22, 23, 24, 25, 26, 27, 28, 29, 30, 31, 32, 33, 34, 35, 36, 37, 38, 39, 40, 41, 42, 43] (by decide +kernel) (by decide +kernel)
set_option maxRecDepth 20000 in
theorem gX3_sets_X3_isCheck : GoodIn wsX3_sets (wsV RX3 100 RX3 yX3_isCheck wsX3_isCheck) := goodIn_app (goodIn_of _ (by decide +kernel)) ggX3_sets_X3_isCheck
theorem dX3_sets_0 : decode cX3_sets 0 = .ok (.aload_n 0, 1) := by decide +kernel
theorem dX3_sets_1 : decode cX3_sets 1 = .ok (.iload_n 1, 1) := by decide +kernel
theorem dX3_sets_2 : decode cX3_sets 2 = .ok (.invokevirtual 100, 3) := by decide +kernel
theorem dX3_sets_5 : decode cX3_sets 5 = .ok (.ifCond .eq 12, 3) := by decide +kernel
theorem dX3_sets_8 : decode cX3_sets 8 = .ok (.aload_n 0, 1) := by decide +kernel
theorem dX3_sets_9 : decode cX3_sets 9 = .ok (.getfield 53, 3) := by decide +kernel
theorem dX3_sets_12 : decode cX3_sets 12 = .ok (.iload_n 1, 1) := by decide +kernel
theorem dX3_sets_13 : decode cX3_sets 13 = .ok (.iaload, 1) := by decide +kernel
theorem dX3_sets_14 : decode cX3_sets 14 = .ok (.goto 5, 3) := by decide +kernel
theorem dX3_sets_17 : decode cX3_sets 17 = .ok (.bipush (-2), 2) := by decide +kernel
theorem dX3_sets_19 : decode cX3_sets 19 = .ok (.ireturn, 1) := by decide +kernel
theorem dX3_manyOf_0 : decode cX3_manyOf 0 = .ok (.iconst 0, 1) := by decide +kernel
theorem dX3_manyOf_1 : decode cX3_manyOf 1 = .ok (.istore_n 2, 1) := by decide +kernel
theorem dX3_manyOf_2 : decode cX3_manyOf 2 = .ok (.iconst 0, 1) := by decide +kernel
theorem dX3_manyOf_3 : decode cX3_manyOf 3 = .ok (.istore_n 3, 1) := by decide +kernel
theorem dX3_manyOf_4 : decode cX3_manyOf 4 = .ok (.iload_n 3, 1) := by decide +kernel
theorem dX3_manyOf_5 : decode cX3_manyOf 5 = .ok (.aload_n 0, 1) := by decide +kernel
theorem dX3_manyOf_6 : decode cX3_manyOf 6 = .ok (.getfield 93, 3) := by decide +kernel
theorem dX3_manyOf_9 : decode cX3_manyOf 9 = .ok (.if_icmp .ge 27, 3) := by decide +kernel
theorem dX3_manyOf_12 : decode cX3_manyOf 12 = .ok (.iload_n 2, 1) := by decide +kernel
theorem dX3_manyOf_13 : decode cX3_manyOf 13 = .ok (.aload_n 0, 1) := by decide +kernel
theorem dX3_manyOf_14 : decode cX3_manyOf 14 = .ok (.getfield 32, 3) := by decide +kernel
theorem dX3_manyOf_17 : decode cX3_manyOf 17 = .ok (.iload_n 3, 1) := by decide +kernel
theorem dX3_manyOf_18 : decode cX3_manyOf 18 = .ok (.iaload, 1) := by decide +kernel
theorem dX3_manyOf_19 : decode cX3_manyOf 19 = .ok (.iload_n 1, 1) := by decide +kernel
theorem dX3_manyOf_20 : decode cX3_manyOf 20 = .ok (.if_icmp .ne 7, 3) := by decide +kernel
theorem dX3_manyOf_23 : decode cX3_manyOf 23 = .ok (.iconst 1, 1) := by decide +kernel
theorem dX3_manyOf_24 : decode cX3_manyOf 24 = .ok (.goto 4, 3) := by decide +kernel
theorem dX3_manyOf_27 : decode cX3_manyOf 27 = .ok (.iconst 0, 1) := by decide +kernel
theorem dX3_manyOf_28 : decode cX3_manyOf 28 = .ok (.iadd, 1) := by decide +kernel
theorem dX3_manyOf_29 : decode cX3_manyOf 29 = .ok (.istore_n 2, 1) := by decide +kernel
theorem dX3_manyOf_30 : decode cX3_manyOf 30 = .ok (.iinc 3 1, 3) := by decide +kernel
theorem dX3_manyOf_33 : decode cX3_manyOf 33 = .ok (.goto (-29), 3) := by decide +kernel
theorem dX3_manyOf_36 : decode cX3_manyOf 36 = .ok (.iload_n 2, 1) := by decide +kernel
theorem dX3_manyOf_37 : decode cX3_manyOf 37 = .ok (.ireturn, 1) := by decide +kernel
set_option maxRecDepth 20000 in
theorem ggX3_count_X3_manyOf : GoodIn wsX3_count wsX3_manyOf := goodIn_r _ [9, 1, 10, 16, 17, 18, 19, 20, 21, 22, 23, 24, 25, 26, 27, 28, 29, 30, 31, 32, 33, 34, 35, 36, 37, 38, 39, 40, 41, 42, 43, 44, 45, 46, 47, 48] (by decide +kernel) (by decide +kernel)
set_option maxRecDepth 20000 in
theorem gX3_count_X3_manyOf : GoodIn wsX3_count (wsV RX3 163 RX3 yX3_manyOf wsX3_manyOf) := goodIn_app (goodIn_of _ (by decide +kernel)) ggX3_count_X3_manyOf
set_option maxRecDepth 20000 in
theorem ggX3_count_X3_manyFrozen : GoodIn wsX3_count wsX3_manyFrozen := goodIn_r _ [14, 1, 15, 16, 17, 18, 19, 20, 21, 22, 23, 24, 25, 26, 27, 28, 29, 30, 31, 32, 33, 34, 35, 36, 37, 38, 39, 40, 41, 42, 43, 44, 45, 46, 47, 48] (by decide +kernel) (by decide +kernel)
set_option maxRecDepth 20000 in
theorem gX3_count_X3_manyFrozen : GoodIn wsX3_count (wsV RX3 114 RX3 yX3_manyFrozen wsX3_manyFrozen) := goodIn_app (goodIn_of _ (by decide +kernel)) ggX3_count_X3_manyFrozen
theorem dX3_count_0 : decode cX3_count 0 = .ok (.iload_n 1, 1) := by decide +kernel
theorem dX3_count_1 : decode cX3_count 1 = .ok (.tableswitch 98 0 7 #[47, 52, 57, 63, 69, 75, 80, 85], 47) := by decide +kernel
theorem dX3_count_48 : decode cX3_count 48 = .ok (.aload_n 0, 1) := by decide +kernel
theorem dX3_count_49 : decode cX3_count 49 = .ok (.getfield 93, 3) := by decide +kernel
theorem dX3_count_52 : decode cX3_count 52 = .ok (.ireturn, 1) := by decide +kernel
theorem dX3_count_53 : decode cX3_count 53 = .ok (.aload_n 0, 1) := by decide +kernel
theorem dX3_count_54 : decode cX3_count 54 = .ok (.getfield 108, 3) := by decide +kernel
theorem dX3_count_57 : decode cX3_count 57 = .ok (.ireturn, 1) := by decide +kernel
theorem dX3_count_58 : decode cX3_count 58 = .ok (.aload_n 0, 1) := by decide +kernel
theorem dX3_count_59 : decode cX3_count 59 = .ok (.iconst 1, 1) := by decide +kernel
theorem dX3_count_60 : decode cX3_count 60 = .ok (.invokevirtual 163, 3) := by decide +kernel
theorem dX3_count_63 : decode cX3_count 63 = .ok (.ireturn, 1) := by decide +kernel
theorem dX3_count_64 : decode cX3_count 64 = .ok (.aload_n 0, 1) := by decide +kernel
theorem dX3_count_65 : decode cX3_count 65 = .ok (.iconst 2, 1) := by decide +kernel
theorem dX3_count_66 : decode cX3_count 66 = .ok (.invokevirtual 163, 3) := by decide +kernel
theorem dX3_count_69 : decode cX3_count 69 = .ok (.ireturn, 1) := by decide +kernel
theorem dX3_count_70 : decode cX3_count 70 = .ok (.aload_n 0, 1) := by decide +kernel
theorem dX3_count_71 : decode cX3_count 71 = .ok (.iconst 3, 1) := by decide +kernel
theorem dX3_count_72 : decode cX3_count 72 = .ok (.invokevirtual 163, 3) := by decide +kernel
theorem dX3_count_75 : decode cX3_count 75 = .ok (.ireturn, 1) := by decide +kernel
theorem dX3_count_76 : decode cX3_count 76 = .ok (.aload_n 0, 1) := by decide +kernel
theorem dX3_count_77 : decode cX3_count 77 = .ok (.invokevirtual 114, 3) := by decide +kernel
theorem dX3_count_80 : decode cX3_count 80 = .ok (.ireturn, 1) := by decide +kernel
theorem dX3_count_81 : decode cX3_count 81 = .ok (.aload_n 0, 1) := by decide +kernel
theorem dX3_count_82 : decode cX3_count 82 = .ok (.getfield 141, 3) := by decide +kernel
theorem dX3_count_85 : decode cX3_count 85 = .ok (.ireturn, 1) := by decide +kernel
theorem dX3_count_86 : decode cX3_count 86 = .ok (.aload_n 0, 1) := by decide +kernel
theorem dX3_count_87 : decode cX3_count 87 = .ok (.getfield 104, 3) := by decide +kernel
theorem dX3_count_90 : decode cX3_count 90 = .ok (.ifCond .eq 7, 3) := by decide +kernel
theorem dX3_count_93 : decode cX3_count 93 = .ok (.iconst 1, 1) := by decide +kernel
theorem dX3_count_94 : decode cX3_count 94 = .ok (.goto 4, 3) := by decide +kernel
theorem dX3_count_97 : decode cX3_count 97 = .ok (.iconst 0, 1) := by decide +kernel
theorem dX3_count_98 : decode cX3_count 98 = .ok (.ireturn, 1) := by decide +kernel
theorem dX3_count_99 : decode cX3_count 99 = .ok (.bipush (-2), 2) := by decide +kernel
theorem dX3_count_101 : decode cX3_count 101 = .ok (.ireturn, 1) := by decide +kernel
set_option maxRecDepth 20000 in
theorem ggX3_digest_X3_count : GoodIn wsX3_digest wsX3_count := goodIn_r _ [13, 3, 14, 6, 15, 16, 17, 18, 12, 19, 20, 21, 22, 23, 24, 25, 57, 58, 59, 60, 61, 62, 63, 64, 65, 66, 67, 68, 69, 70, 71, 72, 73, 74, 75, 76, 77, 78, 79, 80, 81, 82, 83, 84, 85, 86, 87, 88, 89] (by decide +kernel) (by decide +kernel)
set_option maxRecDepth 20000 in
theorem gX3_digest_X3_count : GoodIn wsX3_digest (wsV RX3 170 RX3 yX3_count wsX3_count) := goodIn_app (goodIn_of _ (by decide +kernel)) ggX3_digest_X3_count
set_option maxRecDepth 20000 in
theorem ggX3_digest_X3_aboutOf : GoodIn wsX3_digest wsX3_aboutOf := goodIn_r _ [29, 20, 30, 31, 32, 25, 33, 34, 35, 36, 37, 12, 38, 39, 57, 58, 59, 60, 61, 62, 63, 64, 65, 66, 67, 68, 69, 70, 71, 72, 73, 74, 75, 76, 77, 78, 79, 80, 81, 82, 83, 84, 85, 86, 87, 88, 89] (by decide +kernel) (by decide +kernel)
set_option maxRecDepth 20000 in
theorem gX3_digest_X3_aboutOf : GoodIn wsX3_digest (wsV RX3 137 RX3 yX3_aboutOf wsX3_aboutOf) := goodIn_app (goodIn_of _ (by decide +kernel)) ggX3_digest_X3_aboutOf
set_option maxRecDepth 20000 in
theorem ggX3_digest_X3_frozenAt : GoodIn wsX3_digest wsX3_frozenAt := goodIn_r _ [43, 25, 44, 45, 46, 47, 12, 48, 3, 49, 50, 51, 57, 58, 59, 60, 61, 62, 63, 64, 65, 66, 67, 68, 69, 70, 71, 72, 73, 74, 75, 76, 77, 78, 79, 80, 81, 82, 83, 84, 85, 86, 87, 88, 89] (by decide +kernel) (by decide +kernel)
set_option maxRecDepth 20000 in
theorem gX3_digest_X3_frozenAt : GoodIn wsX3_digest (wsV RX3 173 RX3 yX3_frozenAt wsX3_frozenAt) := goodIn_app (goodIn_of _ (by decide +kernel)) ggX3_digest_X3_frozenAt
set_option maxRecDepth 20000 in
theorem ggX3_digest_X3_frozen : GoodIn wsX3_digest wsX3_frozen := goodIn_r _ [55, 25, 56, 45, 46, 47, 12, 48, 3, 49, 50, 51, 57, 58, 59, 60, 61, 62, 63, 64, 65, 66, 67, 68, 69, 70, 71, 72, 73, 74, 75, 76, 77, 78, 79, 80, 81, 82, 83, 84, 85, 86, 87, 88, 89] (by decide +kernel) (by decide +kernel)
set_option maxRecDepth 20000 in
theorem gX3_digest_X3_frozen : GoodIn wsX3_digest (wsV RX3 176 RX3 yX3_frozen wsX3_frozen) := goodIn_app (goodIn_of _ (by decide +kernel)) ggX3_digest_X3_frozen
theorem dX3_digest_0 : decode cX3_digest 0 = .ok (.ldc2_w 166, 3) := by decide +kernel
theorem dX3_digest_3 : decode cX3_digest 3 = .ok (.lstore_n 1, 1) := by decide +kernel
theorem dX3_digest_4 : decode cX3_digest 4 = .ok (.iconst 0, 1) := by decide +kernel
theorem dX3_digest_5 : decode cX3_digest 5 = .ok (.istore_n 3, 1) := by decide +kernel
theorem dX3_digest_6 : decode cX3_digest 6 = .ok (.iload_n 3, 1) := by decide +kernel
theorem dX3_digest_7 : decode cX3_digest 7 = .ok (.bipush 8, 2) := by decide +kernel
theorem dX3_digest_9 : decode cX3_digest 9 = .ok (.if_icmp .ge 22, 3) := by decide +kernel
theorem dX3_digest_12 : decode cX3_digest 12 = .ok (.ldc2_w 168, 3) := by decide +kernel
theorem dX3_digest_15 : decode cX3_digest 15 = .ok (.lload_n 1, 1) := by decide +kernel
theorem dX3_digest_16 : decode cX3_digest 16 = .ok (.lmul, 1) := by decide +kernel
theorem dX3_digest_17 : decode cX3_digest 17 = .ok (.aload_n 0, 1) := by decide +kernel
theorem dX3_digest_18 : decode cX3_digest 18 = .ok (.iload_n 3, 1) := by decide +kernel
theorem dX3_digest_19 : decode cX3_digest 19 = .ok (.invokevirtual 170, 3) := by decide +kernel
theorem dX3_digest_22 : decode cX3_digest 22 = .ok (.i2l, 1) := by decide +kernel
theorem dX3_digest_23 : decode cX3_digest 23 = .ok (.ladd, 1) := by decide +kernel
theorem dX3_digest_24 : decode cX3_digest 24 = .ok (.lstore_n 1, 1) := by decide +kernel
theorem dX3_digest_25 : decode cX3_digest 25 = .ok (.iinc 3 1, 3) := by decide +kernel
theorem dX3_digest_28 : decode cX3_digest 28 = .ok (.goto (-22), 3) := by decide +kernel
theorem dX3_digest_31 : decode cX3_digest 31 = .ok (.iconst 0, 1) := by decide +kernel
theorem dX3_digest_32 : decode cX3_digest 32 = .ok (.istore_n 3, 1) := by decide +kernel
theorem dX3_digest_33 : decode cX3_digest 33 = .ok (.iload_n 3, 1) := by decide +kernel
theorem dX3_digest_34 : decode cX3_digest 34 = .ok (.aload_n 0, 1) := by decide +kernel
theorem dX3_digest_35 : decode cX3_digest 35 = .ok (.getfield 93, 3) := by decide +kernel
theorem dX3_digest_38 : decode cX3_digest 38 = .ok (.if_icmp .ge 97, 3) := by decide +kernel
theorem dX3_digest_41 : decode cX3_digest 41 = .ok (.iconst 0, 1) := by decide +kernel
theorem dX3_digest_42 : decode cX3_digest 42 = .ok (.istore 4, 2) := by decide +kernel
theorem dX3_digest_44 : decode cX3_digest 44 = .ok (.iload 4, 2) := by decide +kernel
theorem dX3_digest_46 : decode cX3_digest 46 = .ok (.bipush 8, 2) := by decide +kernel
theorem dX3_digest_48 : decode cX3_digest 48 = .ok (.if_icmp .ge 24, 3) := by decide +kernel
theorem dX3_digest_51 : decode cX3_digest 51 = .ok (.ldc2_w 168, 3) := by decide +kernel
theorem dX3_digest_54 : decode cX3_digest 54 = .ok (.lload_n 1, 1) := by decide +kernel
theorem dX3_digest_55 : decode cX3_digest 55 = .ok (.lmul, 1) := by decide +kernel
theorem dX3_digest_56 : decode cX3_digest 56 = .ok (.aload_n 0, 1) := by decide +kernel
theorem dX3_digest_57 : decode cX3_digest 57 = .ok (.iload_n 3, 1) := by decide +kernel
theorem dX3_digest_58 : decode cX3_digest 58 = .ok (.iload 4, 2) := by decide +kernel
theorem dX3_digest_60 : decode cX3_digest 60 = .ok (.invokevirtual 137, 3) := by decide +kernel
theorem dX3_digest_63 : decode cX3_digest 63 = .ok (.i2l, 1) := by decide +kernel
theorem dX3_digest_64 : decode cX3_digest 64 = .ok (.ladd, 1) := by decide +kernel
theorem dX3_digest_65 : decode cX3_digest 65 = .ok (.lstore_n 1, 1) := by decide +kernel
theorem dX3_digest_66 : decode cX3_digest 66 = .ok (.iinc 4 1, 3) := by decide +kernel
theorem dX3_digest_69 : decode cX3_digest 69 = .ok (.goto (-25), 3) := by decide +kernel
theorem dX3_digest_72 : decode cX3_digest 72 = .ok (.ldc2_w 168, 3) := by decide +kernel
theorem dX3_digest_75 : decode cX3_digest 75 = .ok (.lload_n 1, 1) := by decide +kernel
theorem dX3_digest_76 : decode cX3_digest 76 = .ok (.lmul, 1) := by decide +kernel
theorem dX3_digest_77 : decode cX3_digest 77 = .ok (.aload_n 0, 1) := by decide +kernel
theorem dX3_digest_78 : decode cX3_digest 78 = .ok (.iload_n 3, 1) := by decide +kernel
theorem dX3_digest_79 : decode cX3_digest 79 = .ok (.invokevirtual 173, 3) := by decide +kernel
theorem dX3_digest_82 : decode cX3_digest 82 = .ok (.i2l, 1) := by decide +kernel
theorem dX3_digest_83 : decode cX3_digest 83 = .ok (.ladd, 1) := by decide +kernel
theorem dX3_digest_84 : decode cX3_digest 84 = .ok (.lstore_n 1, 1) := by decide +kernel
theorem dX3_digest_85 : decode cX3_digest 85 = .ok (.iconst 0, 1) := by decide +kernel
theorem dX3_digest_86 : decode cX3_digest 86 = .ok (.istore 4, 2) := by decide +kernel
theorem dX3_digest_88 : decode cX3_digest 88 = .ok (.iload 4, 2) := by decide +kernel
theorem dX3_digest_90 : decode cX3_digest 90 = .ok (.iconst 4, 1) := by decide +kernel
theorem dX3_digest_91 : decode cX3_digest 91 = .ok (.if_icmp .ge 24, 3) := by decide +kernel
theorem dX3_digest_94 : decode cX3_digest 94 = .ok (.ldc2_w 168, 3) := by decide +kernel
theorem dX3_digest_97 : decode cX3_digest 97 = .ok (.lload_n 1, 1) := by decide +kernel
theorem dX3_digest_98 : decode cX3_digest 98 = .ok (.lmul, 1) := by decide +kernel
theorem dX3_digest_99 : decode cX3_digest 99 = .ok (.aload_n 0, 1) := by decide +kernel
theorem dX3_digest_100 : decode cX3_digest 100 = .ok (.iload_n 3, 1) := by decide +kernel
theorem dX3_digest_101 : decode cX3_digest 101 = .ok (.iload 4, 2) := by decide +kernel
theorem dX3_digest_103 : decode cX3_digest 103 = .ok (.invokevirtual 176, 3) := by decide +kernel
theorem dX3_digest_106 : decode cX3_digest 106 = .ok (.i2l, 1) := by decide +kernel
theorem dX3_digest_107 : decode cX3_digest 107 = .ok (.ladd, 1) := by decide +kernel
theorem dX3_digest_108 : decode cX3_digest 108 = .ok (.lstore_n 1, 1) := by decide +kernel
theorem dX3_digest_109 : decode cX3_digest 109 = .ok (.iinc 4 1, 3) := by decide +kernel
theorem dX3_digest_112 : decode cX3_digest 112 = .ok (.goto (-24), 3) := by decide +kernel
theorem dX3_digest_115 : decode cX3_digest 115 = .ok (.ldc2_w 168, 3) := by decide +kernel
theorem dX3_digest_118 : decode cX3_digest 118 = .ok (.lload_n 1, 1) := by decide +kernel
theorem dX3_digest_119 : decode cX3_digest 119 = .ok (.lmul, 1) := by decide +kernel
theorem dX3_digest_120 : decode cX3_digest 120 = .ok (.aload_n 0, 1) := by decide +kernel
theorem dX3_digest_121 : decode cX3_digest 121 = .ok (.getfield 53, 3) := by decide +kernel
theorem dX3_digest_124 : decode cX3_digest 124 = .ok (.iload_n 3, 1) := by decide +kernel
theorem dX3_digest_125 : decode cX3_digest 125 = .ok (.iaload, 1) := by decide +kernel
theorem dX3_digest_126 : decode cX3_digest 126 = .ok (.i2l, 1) := by decide +kernel
theorem dX3_digest_127 : decode cX3_digest 127 = .ok (.ladd, 1) := by decide +kernel
theorem dX3_digest_128 : decode cX3_digest 128 = .ok (.lstore_n 1, 1) := by decide +kernel
theorem dX3_digest_129 : decode cX3_digest 129 = .ok (.iinc 3 1, 3) := by decide +kernel
theorem dX3_digest_132 : decode cX3_digest 132 = .ok (.goto (-99), 3) := by decide +kernel
theorem dX3_digest_135 : decode cX3_digest 135 = .ok (.iconst 0, 1) := by decide +kernel
theorem dX3_digest_136 : decode cX3_digest 136 = .ok (.istore_n 3, 1) := by decide +kernel
theorem dX3_digest_137 : decode cX3_digest 137 = .ok (.iload_n 3, 1) := by decide +kernel
theorem dX3_digest_138 : decode cX3_digest 138 = .ok (.iconst 4, 1) := by decide +kernel
theorem dX3_digest_139 : decode cX3_digest 139 = .ok (.if_icmp .ge 23, 3) := by decide +kernel
theorem dX3_digest_142 : decode cX3_digest 142 = .ok (.ldc2_w 168, 3) := by decide +kernel
theorem dX3_digest_145 : decode cX3_digest 145 = .ok (.lload_n 1, 1) := by decide +kernel
theorem dX3_digest_146 : decode cX3_digest 146 = .ok (.lmul, 1) := by decide +kernel
theorem dX3_digest_147 : decode cX3_digest 147 = .ok (.aload_n 0, 1) := by decide +kernel
theorem dX3_digest_148 : decode cX3_digest 148 = .ok (.getfield 59, 3) := by decide +kernel
theorem dX3_digest_151 : decode cX3_digest 151 = .ok (.iload_n 3, 1) := by decide +kernel
theorem dX3_digest_152 : decode cX3_digest 152 = .ok (.iaload, 1) := by decide +kernel
theorem dX3_digest_153 : decode cX3_digest 153 = .ok (.i2l, 1) := by decide +kernel
theorem dX3_digest_154 : decode cX3_digest 154 = .ok (.ladd, 1) := by decide +kernel
theorem dX3_digest_155 : decode cX3_digest 155 = .ok (.lstore_n 1, 1) := by decide +kernel
theorem dX3_digest_156 : decode cX3_digest 156 = .ok (.iinc 3 1, 3) := by decide +kernel
theorem dX3_digest_159 : decode cX3_digest 159 = .ok (.goto (-22), 3) := by decide +kernel
theorem dX3_digest_162 : decode cX3_digest 162 = .ok (.iconst 0, 1) := by decide +kernel
theorem dX3_digest_163 : decode cX3_digest 163 = .ok (.istore_n 3, 1) := by decide +kernel
theorem dX3_digest_164 : decode cX3_digest 164 = .ok (.iload_n 3, 1) := by decide +kernel
theorem dX3_digest_165 : decode cX3_digest 165 = .ok (.aload_n 0, 1) := by decide +kernel
theorem dX3_digest_166 : decode cX3_digest 166 = .ok (.getfield 141, 3) := by decide +kernel
theorem dX3_digest_169 : decode cX3_digest 169 = .ok (.if_icmp .ge 35, 3) := by decide +kernel
theorem dX3_digest_172 : decode cX3_digest 172 = .ok (.ldc2_w 168, 3) := by decide +kernel
theorem dX3_digest_175 : decode cX3_digest 175 = .ok (.ldc2_w 168, 3) := by decide +kernel
theorem dX3_digest_178 : decode cX3_digest 178 = .ok (.lload_n 1, 1) := by decide +kernel
theorem dX3_digest_179 : decode cX3_digest 179 = .ok (.lmul, 1) := by decide +kernel
theorem dX3_digest_180 : decode cX3_digest 180 = .ok (.aload_n 0, 1) := by decide +kernel
theorem dX3_digest_181 : decode cX3_digest 181 = .ok (.getfield 78, 3) := by decide +kernel
theorem dX3_digest_184 : decode cX3_digest 184 = .ok (.iload_n 3, 1) := by decide +kernel
theorem dX3_digest_185 : decode cX3_digest 185 = .ok (.iaload, 1) := by decide +kernel
theorem dX3_digest_186 : decode cX3_digest 186 = .ok (.i2l, 1) := by decide +kernel
theorem dX3_digest_187 : decode cX3_digest 187 = .ok (.ladd, 1) := by decide +kernel
theorem dX3_digest_188 : decode cX3_digest 188 = .ok (.lmul, 1) := by decide +kernel
theorem dX3_digest_189 : decode cX3_digest 189 = .ok (.aload_n 0, 1) := by decide +kernel
theorem dX3_digest_190 : decode cX3_digest 190 = .ok (.getfield 81, 3) := by decide +kernel
theorem dX3_digest_193 : decode cX3_digest 193 = .ok (.iload_n 3, 1) := by decide +kernel
theorem dX3_digest_194 : decode cX3_digest 194 = .ok (.iaload, 1) := by decide +kernel
theorem dX3_digest_195 : decode cX3_digest 195 = .ok (.i2l, 1) := by decide +kernel
theorem dX3_digest_196 : decode cX3_digest 196 = .ok (.ladd, 1) := by decide +kernel
theorem dX3_digest_197 : decode cX3_digest 197 = .ok (.lstore_n 1, 1) := by decide +kernel
theorem dX3_digest_198 : decode cX3_digest 198 = .ok (.iinc 3 1, 3) := by decide +kernel
theorem dX3_digest_201 : decode cX3_digest 201 = .ok (.goto (-37), 3) := by decide +kernel
theorem dX3_digest_204 : decode cX3_digest 204 = .ok (.lload_n 1, 1) := by decide +kernel
theorem dX3_digest_205 : decode cX3_digest 205 = .ok (.lreturn, 1) := by decide +kernel
