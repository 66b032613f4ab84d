theorem dX2_plan_11 : decode cX2_plan 11 = .ok (.ireturn, 1) := by decide +kernel
set_option maxRecDepth 20000 in
theorem ggX2_test_X2_lookAtCodes : GoodIn wsX2_test wsX2_lookAtCodes := goodIn_r _ [6, 1, 7, 8, 9, 5, 10, 11, 12, 13, 14, 15, 16, 17, 18, 19, 20, 21, 22, 23, 24, 25, 26, 27, 28, 29, 30, 31, 32, 33, 34, 35, 36, 37, 38, 39, 40, 41, 42, 43, 44, 45, 46, 47, 48, 49, 50, 51, 52, 53, 78, 79, 80, 81, 82, 83, 84, 85, 86, 87, 88, 89, 90, 91, 92, 93, 94, 95, 96, 97, 98, 99, 100, 101, 102, 103, 104, 105, 106, 107, 108, 109, 110, 111, 112, 113, 114, 115, 116, 117] (by decide +kernel) (by decide +kernel)
set_option maxRecDepth 20000 in
theorem gX2_test_X2_lookAtCodes : GoodIn wsX2_test (wsV RX2 129 RX2 yX2_lookAtCodes wsX2_lookAtCodes) := goodIn_app (goodIn_of _ (by decide +kernel)) ggX2_test_X2_lookAtCodes
set_option maxRecDepth 20000 in
theorem ggX2_test_X1_planTest : GoodIn wsX2_test wsX1_planTest := goodIn_r _ [57, 40, 58, 59, 60, 61, 29, 62, 35, 33, 63, 64, 65, 66, 67, 41, 68, 69, 70, 71, 72, 73, 74, 75, 76, 77, 42, 43, 44, 45, 46, 47, 48, 105, 106, 107, 108, 109, 110, 111, 112, 113, 114, 115, 116, 117] (by decide +kernel) (by decide +kernel)
set_option maxRecDepth 20000 in
theorem gX2_test_X1_planTest : GoodIn wsX2_test (wsV RX2 141 RX1 yX1_planTest wsX1_planTest) := goodIn_app (goodIn_of _ (by decide +kernel)) ggX2_test_X1_planTest
theorem dX2_test_0 : decode cX2_test 0 = .ok (.aload_n 0, 1) := by decide +kernel
theorem dX2_test_1 : decode cX2_test 1 = .ok (.invokevirtual 129, 3) := by decide +kernel
theorem dX2_test_4 : decode cX2_test 4 = .ok (.aload_n 0, 1) := by decide +kernel
theorem dX2_test_5 : decode cX2_test 5 = .ok (.getfield 42, 3) := by decide +kernel
theorem dX2_test_8 : decode cX2_test 8 = .ok (.invokevirtual 141, 3) := by decide +kernel
theorem dX2_test_11 : decode cX2_test 11 = .ok (.ireturn, 1) := by decide +kernel
set_option maxRecDepth 20000 in
theorem ggX2_foretells_X2_checkAt : GoodIn wsX2_foretells wsX2_checkAt := goodIn_r _ [6, 7, 8, 9, 10, 5, 11, 30, 31, 32, 33, 34, 35, 36, 37, 38] (by decide +kernel) (by decide +kernel)
set_option maxRecDepth 20000 in
theorem gX2_foretells_X2_checkAt : GoodIn wsX2_foretells (wsV RX2 50 RX2 yX2_checkAt wsX2_checkAt) := goodIn_app (goodIn_of _ (by decide +kernel)) ggX2_foretells_X2_checkAt
theorem dX2_foretells_0 : decode cX2_foretells 0 = .ok (.aload_n 0, 1) := by decide +kernel
theorem dX2_foretells_1 : decode cX2_foretells 1 = .ok (.iload_n 2, 1) := by decide +kernel
theorem dX2_foretells_2 : decode cX2_foretells 2 = .ok (.invokevirtual 50, 3) := by decide +kernel
theorem dX2_foretells_5 : decode cX2_foretells 5 = .ok (.astore_n 3, 1) := by decide +kernel
theorem dX2_foretells_6 : decode cX2_foretells 6 = .ok (.aload_n 3, 1) := by decide +kernel
theorem dX2_foretells_7 : decode cX2_foretells 7 = .ok (.ifnull 11, 3) := by decide +kernel
theorem dX2_foretells_10 : decode cX2_foretells 10 = .ok (.aload_n 0, 1) := by decide +kernel
theorem dX2_foretells_11 : decode cX2_foretells 11 = .ok (.iload_n 1, 1) := by decide +kernel
theorem dX2_foretells_12 : decode cX2_foretells 12 = .ok (.invokevirtual 50, 3) := by decide +kernel
theorem dX2_foretells_15 : decode cX2_foretells 15 = .ok (.ifnonnull 8, 3) := by decide +kernel
theorem dX2_foretells_18 : decode cX2_foretells 18 = .ok (.bipush (-2), 2) := by decide +kernel
theorem dX2_foretells_20 : decode cX2_foretells 20 = .ok (.goto 9, 3) := by decide +kernel
theorem dX2_foretells_23 : decode cX2_foretells 23 = .ok (.aload_n 3, 1) := by decide +kernel
theorem dX2_foretells_24 : decode cX2_foretells 24 = .ok (.getfield 144, 3) := by decide +kernel
theorem dX2_foretells_27 : decode cX2_foretells 27 = .ok (.iload_n 1, 1) := by decide +kernel
theorem dX2_foretells_28 : decode cX2_foretells 28 = .ok (.iaload, 1) := by decide +kernel
theorem dX2_foretells_29 : decode cX2_foretells 29 = .ok (.ireturn, 1) := by decide +kernel
set_option maxRecDepth 20000 in
theorem ggX2_sets_X2_checkAt : GoodIn wsX2_sets wsX2_checkAt := goodIn_r _ [6, 7, 8, 9, 10, 5, 11, 30, 31, 32, 33, 34, 35, 36, 37, 38] (by decide +kernel) (by decide +kernel)
set_option maxRecDepth 20000 in
theorem gX2_sets_X2_checkAt : GoodIn wsX2_sets (wsV RX2 50 RX2 yX2_checkAt wsX2_checkAt) := goodIn_app (goodIn_of _ (by decide +kernel)) ggX2_sets_X2_checkAt
theorem dX2_sets_0 : decode cX2_sets 0 = .ok (.aload_n 0, 1) := by decide +kernel
theorem dX2_sets_1 : decode cX2_sets 1 = .ok (.iload_n 1, 1) := by decide +kernel
theorem dX2_sets_2 : decode cX2_sets 2 = .ok (.invokevirtual 50, 3) := by decide +kernel
theorem dX2_sets_5 : decode cX2_sets 5 = .ok (.astore_n 2, 1) := by decide +kernel
theorem dX2_sets_6 : decode cX2_sets 6 = .ok (.aload_n 2, 1) := by decide +kernel
theorem dX2_sets_7 : decode cX2_sets 7 = .ok (.ifnonnull 8, 3) := by decide +kernel
theorem dX2_sets_10 : decode cX2_sets 10 = .ok (.bipush (-2), 2) := by decide +kernel
theorem dX2_sets_12 : decode cX2_sets 12 = .ok (.goto 7, 3) := by decide +kernel
theorem dX2_sets_15 : decode cX2_sets 15 = .ok (.aload_n 2, 1) := by decide +kernel
theorem dX2_sets_16 : decode cX2_sets 16 = .ok (.getfield 147, 3) := by decide +kernel
theorem dX2_sets_19 : decode cX2_sets 19 = .ok (.ireturn, 1) := by decide +kernel
set_option maxRecDepth 20000 in
theorem ggX2_count_X2_codeBits : GoodIn wsX2_count wsX2_codeBits := goodIn_r _ [10, 1, 11, 12, 13, 14, 9, 15, 16, 17, 18, 19, 40, 41, 42, 43, 44, 45, 46, 47, 48, 62, 63, 64, 65, 66, 67, 68, 69, 70, 71, 72, 73, 74, 75, 76, 77, 78, 79] (by decide +kernel) (by decide +kernel)
set_option maxRecDepth 20000 in
theorem gX2_count_X2_codeBits : GoodIn wsX2_count (wsV RX2 123 RX2 yX2_codeBits wsX2_codeBits) := goodIn_app (goodIn_of _ (by decide +kernel)) ggX2_count_X2_codeBits
set_option maxRecDepth 20000 in
theorem ggX2_count_J6_bitCount_0f7a4 : GoodIn wsX2_count wsJ6_bitCount_0f7a4 := goodIn_r _ [23, 24, 25, 26] (by decide +kernel) (by decide +kernel)
set_option maxRecDepth 20000 in
theorem gX2_count_J6_bitCount_0f7a4 : GoodIn wsX2_count (va_wsS RX2 150 yJ6_bitCount_0f7a4 wsJ6_bitCount_0f7a4) := goodIn_app (goodIn_of _ (by decide +kernel)) ggX2_count_J6_bitCount_0f7a4
set_option maxRecDepth 20000 in
theorem ggX2_count_X2_frozenCount : GoodIn wsX2_count wsX2_frozenCount := goodIn_r _ [30, 1, 12, 13, 14, 9, 15, 16, 17, 18, 19, 31, 32, 33, 34, 35, 36, 40, 41, 42, 43, 44, 45, 46, 47, 48, 62, 63, 64, 65, 66, 67, 68, 69, 70, 71, 72, 73, 74, 75, 76, 77, 78, 79] (by decide +kernel) (by decide +kernel)
set_option maxRecDepth 20000 in
theorem gX2_count_X2_frozenCount : GoodIn wsX2_count (wsV RX2 69 RX2 yX2_frozenCount wsX2_frozenCount) := goodIn_app (goodIn_of _ (by decide +kernel)) ggX2_count_X2_frozenCount
set_option maxRecDepth 20000 in
theorem ggX2_count_X2_asNumber : GoodIn wsX2_count wsX2_asNumber := goodIn_r _ [39] (by decide +kernel) (by decide +kernel)
set_option maxRecDepth 20000 in
theorem gX2_count_X2_asNumber : GoodIn wsX2_count (va_wsS RX2 82 yX2_asNumber wsX2_asNumber) := goodIn_app (goodIn_of _ (by decide +kernel)) ggX2_count_X2_asNumber
theorem dX2_count_0 : decode cX2_count 0 = .ok (.iload_n 1, 1) := by decide +kernel
theorem dX2_count_1 : decode cX2_count 1 = .ok (.tableswitch 105 0 7 #[47, 52, 57, 66, 75, 84, 89, 97], 47) := by decide +kernel
theorem dX2_count_48 : decode cX2_count 48 = .ok (.aload_n 0, 1) := by decide +kernel
theorem dX2_count_49 : decode cX2_count 49 = .ok (.getfield 15, 3) := by decide +kernel
theorem dX2_count_52 : decode cX2_count 52 = .ok (.ireturn, 1) := by decide +kernel
theorem dX2_count_53 : decode cX2_count 53 = .ok (.aload_n 0, 1) := by decide +kernel
theorem dX2_count_54 : decode cX2_count 54 = .ok (.getfield 29, 3) := by decide +kernel
theorem dX2_count_57 : decode cX2_count 57 = .ok (.ireturn, 1) := by decide +kernel
theorem dX2_count_58 : decode cX2_count 58 = .ok (.aload_n 0, 1) := by decide +kernel
theorem dX2_count_59 : decode cX2_count 59 = .ok (.iconst 1, 1) := by decide +kernel
theorem dX2_count_60 : decode cX2_count 60 = .ok (.invokevirtual 123, 3) := by decide +kernel
theorem dX2_count_63 : decode cX2_count 63 = .ok (.invokestatic 150, 3) := by decide +kernel
theorem dX2_count_66 : decode cX2_count 66 = .ok (.ireturn, 1) := by decide +kernel
theorem dX2_count_67 : decode cX2_count 67 = .ok (.aload_n 0, 1) := by decide +kernel
theorem dX2_count_68 : decode cX2_count 68 = .ok (.iconst 2, 1) := by decide +kernel
theorem dX2_count_69 : decode cX2_count 69 = .ok (.invokevirtual 123, 3) := by decide +kernel
theorem dX2_count_72 : decode cX2_count 72 = .ok (.invokestatic 150, 3) := by decide +kernel
theorem dX2_count_75 : decode cX2_count 75 = .ok (.ireturn, 1) := by decide +kernel
theorem dX2_count_76 : decode cX2_count 76 = .ok (.aload_n 0, 1) := by decide +kernel
theorem dX2_count_77 : decode cX2_count 77 = .ok (.iconst 3, 1) := by decide +kernel
theorem dX2_count_78 : decode cX2_count 78 = .ok (.invokevirtual 123, 3) := by decide +kernel
theorem dX2_count_81 : decode cX2_count 81 = .ok (.invokestatic 150, 3) := by decide +kernel
theorem dX2_count_84 : decode cX2_count 84 = .ok (.ireturn, 1) := by decide +kernel
theorem dX2_count_85 : decode cX2_count 85 = .ok (.aload_n 0, 1) := by decide +kernel
theorem dX2_count_86 : decode cX2_count 86 = .ok (.invokevirtual 69, 3) := by decide +kernel
theorem dX2_count_89 : decode cX2_count 89 = .ok (.ireturn, 1) := by decide +kernel
theorem dX2_count_90 : decode cX2_count 90 = .ok (.aload_n 0, 1) := by decide +kernel
theorem dX2_count_91 : decode cX2_count 91 = .ok (.getfield 42, 3) := by decide +kernel
theorem dX2_count_94 : decode cX2_count 94 = .ok (.getfield 117, 3) := by decide +kernel
theorem dX2_count_97 : decode cX2_count 97 = .ok (.ireturn, 1) := by decide +kernel
theorem dX2_count_98 : decode cX2_count 98 = .ok (.aload_n 0, 1) := by decide +kernel
theorem dX2_count_99 : decode cX2_count 99 = .ok (.getfield 32, 3) := by decide +kernel
theorem dX2_count_102 : decode cX2_count 102 = .ok (.invokestatic 82, 3) := by decide +kernel
theorem dX2_count_105 : decode cX2_count 105 = .ok (.ireturn, 1) := by decide +kernel
theorem dX2_count_106 : decode cX2_count 106 = .ok (.bipush (-2), 2) := by decide +kernel
theorem dX2_count_108 : decode cX2_count 108 = .ok (.ireturn, 1) := by decide +kernel
set_option maxRecDepth 20000 in
theorem ggX2_digest_X2_count : GoodIn wsX2_digest wsX2_count := goodIn_r _ [10, 3, 11, 5, 12, 13, 14, 15, 16, 9, 17, 18, 19, 20, 21, 22, 23, 24, 25, 26, 27, 28, 29, 30, 31, 32, 33, 34, 35, 36, 37, 38, 39, 40, 41, 42, 43, 44, 45, 46, 100, 101, 102, 103, 104, 105, 106, 107, 108, 109, 110, 111, 112, 113, 114, 115, 116, 117, 118, 119, 120, 121, 122, 123, 124, 125, 126, 127, 128, 129, 130, 131, 132, 133, 134, 135, 136, 137, 138, 139] (by decide +kernel) (by decide +kernel)
set_option maxRecDepth 20000 in
theorem gX2_digest_X2_count : GoodIn wsX2_digest (wsV RX2 159 RX2 yX2_count wsX2_count) := goodIn_app (goodIn_of _ (by decide +kernel)) ggX2_digest_X2_count
set_option maxRecDepth 20000 in
theorem ggX2_digest_X2_digestOfCheck : GoodIn wsX2_digest wsX2_digestOfCheck := goodIn_r _ [50, 2, 51, 52, 53, 9, 54, 19, 20, 21, 22, 3, 23, 24, 25, 26, 55, 56, 57, 58, 59, 60, 61, 62, 63, 41, 64, 65, 44, 45, 46, 66, 67, 68, 69, 70, 71, 72, 73, 74, 75, 39, 40, 42, 43, 76, 77, 78, 79, 80, 81, 82, 83, 84, 85, 38, 86, 87, 88, 89, 90, 100, 101, 102, 103, 104, 105, 106, 107, 108, 122, 123, 124, 125, 126, 127, 128, 129, 130, 131, 132, 133, 134, 135, 136, 137, 138, 139] (by decide +kernel) (by decide +kernel)
set_option maxRecDepth 20000 in
theorem gX2_digest_X2_digestOfCheck : GoodIn wsX2_digest (wsV RX2 162 RX2 yX2_digestOfCheck wsX2_digestOfCheck) := goodIn_app (goodIn_of _ (by decide +kernel)) ggX2_digest_X2_digestOfCheck
set_option maxRecDepth 20000 in
theorem ggX2_digest_X1_digestFrom : GoodIn wsX2_digest wsX1_digestFrom := goodIn_r _ [95, 96, 97, 98, 99, 109, 110, 111, 112, 113, 114, 115, 116, 117, 118, 119, 120, 121] (by decide +kernel) (by decide +kernel)
set_option maxRecDepth 20000 in
theorem gX2_digest_X1_digestFrom : GoodIn wsX2_digest (wsV RX2 166 RX1 yX1_digestFrom wsX1_digestFrom) := goodIn_app (goodIn_of _ (by decide +kernel)) ggX2_digest_X1_digestFrom
theorem dX2_digest_0 : decode cX2_digest 0 = .ok (.ldc2_w 155, 3) := by decide +kernel
theorem dX2_digest_3 : decode cX2_digest 3 = .ok (.lstore_n 1, 1) := by decide +kernel
theorem dX2_digest_4 : decode cX2_digest 4 = .ok (.iconst 0, 1) := by decide +kernel
theorem dX2_digest_5 : decode cX2_digest 5 = .ok (.istore_n 3, 1) := by decide +kernel
theorem dX2_digest_6 : decode cX2_digest 6 = .ok (.iload_n 3, 1) := by decide +kernel
theorem dX2_digest_7 : decode cX2_digest 7 = .ok (.bipush 8, 2) := by decide +kernel
theorem dX2_digest_9 : decode cX2_digest 9 = .ok (.if_icmp .ge 22, 3) := by decide +kernel
theorem dX2_digest_12 : decode cX2_digest 12 = .ok (.ldc2_w 157, 3) := by decide +kernel
theorem dX2_digest_15 : decode cX2_digest 15 = .ok (.lload_n 1, 1) := by decide +kernel
theorem dX2_digest_16 : decode cX2_digest 16 = .ok (.lmul, 1) := by decide +kernel
theorem dX2_digest_17 : decode cX2_digest 17 = .ok (.aload_n 0, 1) := by decide +kernel
theorem dX2_digest_18 : decode cX2_digest 18 = .ok (.iload_n 3, 1) := by decide +kernel
theorem dX2_digest_19 : decode cX2_digest 19 = .ok (.invokevirtual 159, 3) := by decide +kernel
theorem dX2_digest_22 : decode cX2_digest 22 = .ok (.i2l, 1) := by decide +kernel
theorem dX2_digest_23 : decode cX2_digest 23 = .ok (.ladd, 1) := by decide +kernel
theorem dX2_digest_24 : decode cX2_digest 24 = .ok (.lstore_n 1, 1) := by decide +kernel
theorem dX2_digest_25 : decode cX2_digest 25 = .ok (.iinc 3 1, 3) := by decide +kernel
theorem dX2_digest_28 : decode cX2_digest 28 = .ok (.goto (-22), 3) := by decide +kernel
theorem dX2_digest_31 : decode cX2_digest 31 = .ok (.iconst 0, 1) := by decide +kernel
theorem dX2_digest_32 : decode cX2_digest 32 = .ok (.istore_n 3, 1) := by decide +kernel
theorem dX2_digest_33 : decode cX2_digest 33 = .ok (.iload_n 3, 1) := by decide +kernel
theorem dX2_digest_34 : decode cX2_digest 34 = .ok (.aload_n 0, 1) := by decide +kernel
theorem dX2_digest_35 : decode cX2_digest 35 = .ok (.getfield 15, 3) := by decide +kernel
theorem dX2_digest_38 : decode cX2_digest 38 = .ok (.if_icmp .ge 16, 3) := by decide +kernel
theorem dX2_digest_41 : decode cX2_digest 41 = .ok (.aload_n 0, 1) := by decide +kernel
theorem dX2_digest_42 : decode cX2_digest 42 = .ok (.lload_n 1, 1) := by decide +kernel
theorem dX2_digest_43 : decode cX2_digest 43 = .ok (.iload_n 3, 1) := by decide +kernel
theorem dX2_digest_44 : decode cX2_digest 44 = .ok (.invokevirtual 162, 3) := by decide +kernel
theorem dX2_digest_47 : decode cX2_digest 47 = .ok (.lstore_n 1, 1) := by decide +kernel
theorem dX2_digest_48 : decode cX2_digest 48 = .ok (.iinc 3 1, 3) := by decide +kernel
theorem dX2_digest_51 : decode cX2_digest 51 = .ok (.goto (-18), 3) := by decide +kernel
theorem dX2_digest_54 : decode cX2_digest 54 = .ok (.iconst 0, 1) := by decide +kernel
theorem dX2_digest_55 : decode cX2_digest 55 = .ok (.istore_n 3, 1) := by decide +kernel
theorem dX2_digest_56 : decode cX2_digest 56 = .ok (.iload_n 3, 1) := by decide +kernel
theorem dX2_digest_57 : decode cX2_digest 57 = .ok (.iconst 4, 1) := by decide +kernel
theorem dX2_digest_58 : decode cX2_digest 58 = .ok (.if_icmp .ge 23, 3) := by decide +kernel
theorem dX2_digest_61 : decode cX2_digest 61 = .ok (.ldc2_w 157, 3) := by decide +kernel
theorem dX2_digest_64 : decode cX2_digest 64 = .ok (.lload_n 1, 1) := by decide +kernel
theorem dX2_digest_65 : decode cX2_digest 65 = .ok (.lmul, 1) := by decide +kernel
theorem dX2_digest_66 : decode cX2_digest 66 = .ok (.aload_n 0, 1) := by decide +kernel
theorem dX2_digest_67 : decode cX2_digest 67 = .ok (.getfield 19, 3) := by decide +kernel
theorem dX2_digest_70 : decode cX2_digest 70 = .ok (.iload_n 3, 1) := by decide +kernel
theorem dX2_digest_71 : decode cX2_digest 71 = .ok (.iaload, 1) := by decide +kernel
theorem dX2_digest_72 : decode cX2_digest 72 = .ok (.i2l, 1) := by decide +kernel
theorem dX2_digest_73 : decode cX2_digest 73 = .ok (.ladd, 1) := by decide +kernel
theorem dX2_digest_74 : decode cX2_digest 74 = .ok (.lstore_n 1, 1) := by decide +kernel
theorem dX2_digest_75 : decode cX2_digest 75 = .ok (.iinc 3 1, 3) := by decide +kernel
theorem dX2_digest_78 : decode cX2_digest 78 = .ok (.goto (-22), 3) := by decide +kernel
theorem dX2_digest_81 : decode cX2_digest 81 = .ok (.aload_n 0, 1) := by decide +kernel
theorem dX2_digest_82 : decode cX2_digest 82 = .ok (.getfield 42, 3) := by decide +kernel
theorem dX2_digest_85 : decode cX2_digest 85 = .ok (.lload_n 1, 1) := by decide +kernel
theorem dX2_digest_86 : decode cX2_digest 86 = .ok (.invokevirtual 166, 3) := by decide +kernel
theorem dX2_digest_89 : decode cX2_digest 89 = .ok (.lreturn, 1) := by decide +kernel
set_option maxRecDepth 20000 in
theorem ggX2_digestOfCheck_X2_about : GoodIn wsX2_digestOfCheck wsX2_about := goodIn_r _ [6, 7, 8, 9, 5, 10, 11, 12, 13, 14, 15, 16, 17, 18, 19, 20, 21, 22, 23, 24, 25, 26, 27, 28, 29, 30, 31, 32, 33, 34, 35, 36, 37, 38, 39, 40, 41, 42, 43, 44, 61, 62, 63, 64, 65, 66, 67, 68, 69, 70, 71, 72, 73, 74, 75, 76, 77, 78, 79, 80, 81, 82, 83, 84, 85, 86, 87] (by decide +kernel) (by decide +kernel)
set_option maxRecDepth 20000 in
theorem gX2_digestOfCheck_X2_about : GoodIn wsX2_digestOfCheck (wsV RX2 170 RX2 yX2_about wsX2_about) := goodIn_app (goodIn_of _ (by decide +kernel)) ggX2_digestOfCheck_X2_about
set_option maxRecDepth 20000 in
theorem ggX2_digestOfCheck_X2_frozenAt : GoodIn wsX2_digestOfCheck wsX2_frozenAt := goodIn_r _ [48, 49, 7, 8, 9, 5, 10, 11, 12, 13, 14, 15, 70, 71, 72, 73, 74, 75, 76, 77, 78, 79, 80, 81, 82, 83, 84, 85, 86, 87, 61, 62, 63, 64, 65, 66, 67, 68, 69] (by decide +kernel) (by decide +kernel)
set_option maxRecDepth 20000 in
theorem gX2_digestOfCheck_X2_frozenAt : GoodIn wsX2_digestOfCheck (wsV RX2 173 RX2 yX2_frozenAt wsX2_frozenAt) := goodIn_app (goodIn_of _ (by decide +kernel)) ggX2_digestOfCheck_X2_frozenAt
set_option maxRecDepth 20000 in
theorem ggX2_digestOfCheck_X2_frozen : GoodIn wsX2_digestOfCheck wsX2_frozen := goodIn_r _ [53, 54, 7, 8, 9, 5, 10, 11, 12, 13, 14, 15, 55, 41, 42, 25, 43, 44, 70, 71, 72, 73, 74, 75, 76, 77, 78, 79, 80, 81, 82, 83, 84, 85, 86, 87, 61, 62, 63, 64, 65, 66, 67, 68, 69] (by decide +kernel) (by decide +kernel)
set_option maxRecDepth 20000 in
theorem gX2_digestOfCheck_X2_frozen : GoodIn wsX2_digestOfCheck (wsV RX2 176 RX2 yX2_frozen wsX2_frozen) := goodIn_app (goodIn_of _ (by decide +kernel)) ggX2_digestOfCheck_X2_frozen
set_option maxRecDepth 20000 in
theorem ggX2_digestOfCheck_X2_sets : GoodIn wsX2_digestOfCheck wsX2_sets := goodIn_r _ [59, 60, 7, 8, 9, 5, 10, 11, 12, 13, 14, 15, 70, 71, 72, 73, 74, 75, 76, 77, 78, 79, 80, 81, 82, 83, 84, 85, 86, 87, 61, 62, 63, 64, 65, 66, 67, 68, 69] (by decide +kernel) (by decide +kernel)
set_option maxRecDepth 20000 in
theorem gX2_digestOfCheck_X2_sets : GoodIn wsX2_digestOfCheck (wsV RX2 179 RX2 yX2_sets wsX2_sets) := goodIn_app (goodIn_of _ (by decide +kernel)) ggX2_digestOfCheck_X2_sets
theorem dX2_digestOfCheck_0 : decode cX2_digestOfCheck 0 = .ok (.lload_n 1, 1) := by decide +kernel
theorem dX2_digestOfCheck_1 : decode cX2_digestOfCheck 1 = .ok (.lstore 4, 2) := by decide +kernel
theorem dX2_digestOfCheck_3 : decode cX2_digestOfCheck 3 = .ok (.iconst 0, 1) := by decide +kernel
theorem dX2_digestOfCheck_4 : decode cX2_digestOfCheck 4 = .ok (.istore 6, 2) := by decide +kernel
theorem dX2_digestOfCheck_6 : decode cX2_digestOfCheck 6 = .ok (.iload 6, 2) := by decide +kernel
theorem dX2_digestOfCheck_8 : decode cX2_digestOfCheck 8 = .ok (.bipush 8, 2) := by decide +kernel
theorem dX2_digestOfCheck_10 : decode cX2_digestOfCheck 10 = .ok (.if_icmp .ge 26, 3) := by decide +kernel
theorem dX2_digestOfCheck_13 : decode cX2_digestOfCheck 13 = .ok (.ldc2_w 157, 3) := by decide +kernel
theorem dX2_digestOfCheck_16 : decode cX2_digestOfCheck 16 = .ok (.lload 4, 2) := by decide +kernel
theorem dX2_digestOfCheck_18 : decode cX2_digestOfCheck 18 = .ok (.lmul, 1) := by decide +kernel
theorem dX2_digestOfCheck_19 : decode cX2_digestOfCheck 19 = .ok (.aload_n 0, 1) := by decide +kernel
theorem dX2_digestOfCheck_20 : decode cX2_digestOfCheck 20 = .ok (.iload_n 3, 1) := by decide +kernel
theorem dX2_digestOfCheck_21 : decode cX2_digestOfCheck 21 = .ok (.iload 6, 2) := by decide +kernel
theorem dX2_digestOfCheck_23 : decode cX2_digestOfCheck 23 = .ok (.invokevirtual 170, 3) := by decide +kernel
theorem dX2_digestOfCheck_26 : decode cX2_digestOfCheck 26 = .ok (.i2l, 1) := by decide +kernel
theorem dX2_digestOfCheck_27 : decode cX2_digestOfCheck 27 = .ok (.ladd, 1) := by decide +kernel
theorem dX2_digestOfCheck_28 : decode cX2_digestOfCheck 28 = .ok (.lstore 4, 2) := by decide +kernel
theorem dX2_digestOfCheck_30 : decode cX2_digestOfCheck 30 = .ok (.iinc 6 1, 3) := by decide +kernel
theorem dX2_digestOfCheck_33 : decode cX2_digestOfCheck 33 = .ok (.goto (-27), 3) := by decide +kernel
theorem dX2_digestOfCheck_36 : decode cX2_digestOfCheck 36 = .ok (.ldc2_w 157, 3) := by decide +kernel
theorem dX2_digestOfCheck_39 : decode cX2_digestOfCheck 39 = .ok (.lload 4, 2) := by decide +kernel
theorem dX2_digestOfCheck_41 : decode cX2_digestOfCheck 41 = .ok (.lmul, 1) := by decide +kernel
theorem dX2_digestOfCheck_42 : decode cX2_digestOfCheck 42 = .ok (.aload_n 0, 1) := by decide +kernel
theorem dX2_digestOfCheck_43 : decode cX2_digestOfCheck 43 = .ok (.iload_n 3, 1) := by decide +kernel
theorem dX2_digestOfCheck_44 : decode cX2_digestOfCheck 44 = .ok (.invokevirtual 173, 3) := by decide +kernel
theorem dX2_digestOfCheck_47 : decode cX2_digestOfCheck 47 = .ok (.i2l, 1) := by decide +kernel
theorem dX2_digestOfCheck_48 : decode cX2_digestOfCheck 48 = .ok (.ladd, 1) := by decide +kernel
theorem dX2_digestOfCheck_49 : decode cX2_digestOfCheck 49 = .ok (.lstore 4, 2) := by decide +kernel
theorem dX2_digestOfCheck_51 : decode cX2_digestOfCheck 51 = .ok (.iconst 0, 1) := by decide +kernel
theorem dX2_digestOfCheck_52 : decode cX2_digestOfCheck 52 = .ok (.istore 6, 2) := by decide +kernel
theorem dX2_digestOfCheck_54 : decode cX2_digestOfCheck 54 = .ok (.iload 6, 2) := by decide +kernel
theorem dX2_digestOfCheck_56 : decode cX2_digestOfCheck 56 = .ok (.iconst 4, 1) := by decide +kernel
theorem dX2_digestOfCheck_57 : decode cX2_digestOfCheck 57 = .ok (.if_icmp .ge 26, 3) := by decide +kernel
theorem dX2_digestOfCheck_60 : decode cX2_digestOfCheck 60 = .ok (.ldc2_w 157, 3) := by decide +kernel
theorem dX2_digestOfCheck_63 : decode cX2_digestOfCheck 63 = .ok (.lload 4, 2) := by decide +kernel
theorem dX2_digestOfCheck_65 : decode cX2_digestOfCheck 65 = .ok (.lmul, 1) := by decide +kernel
theorem dX2_digestOfCheck_66 : decode cX2_digestOfCheck 66 = .ok (.aload_n 0, 1) := by decide +kernel
theorem dX2_digestOfCheck_67 : decode cX2_digestOfCheck 67 = .ok (.iload_n 3, 1) := by decide +kernel
theorem dX2_digestOfCheck_68 : decode cX2_digestOfCheck 68 = .ok (.iload 6, 2) := by decide +kernel
theorem dX2_digestOfCheck_70 : decode cX2_digestOfCheck 70 = .ok (.invokevirtual 176, 3) := by decide +kernel
theorem dX2_digestOfCheck_73 : decode cX2_digestOfCheck 73 = .ok (.i2l, 1) := by decide +kernel
theorem dX2_digestOfCheck_74 : decode cX2_digestOfCheck 74 = .ok (.ladd, 1) := by decide +kernel
theorem dX2_digestOfCheck_75 : decode cX2_digestOfCheck 75 = .ok (.lstore 4, 2) := by decide +kernel
theorem dX2_digestOfCheck_77 : decode cX2_digestOfCheck 77 = .ok (.iinc 6 1, 3) := by decide +kernel
theorem dX2_digestOfCheck_80 : decode cX2_digestOfCheck 80 = .ok (.goto (-26), 3) := by decide +kernel
theorem dX2_digestOfCheck_83 : decode cX2_digestOfCheck 83 = .ok (.ldc2_w 157, 3) := by decide +kernel
theorem dX2_digestOfCheck_86 : decode cX2_digestOfCheck 86 = .ok (.lload 4, 2) := by decide +kernel
theorem dX2_digestOfCheck_88 : decode cX2_digestOfCheck 88 = .ok (.lmul, 1) := by decide +kernel
theorem dX2_digestOfCheck_89 : decode cX2_digestOfCheck 89 = .ok (.aload_n 0, 1) := by decide +kernel
theorem dX2_digestOfCheck_90 : decode cX2_digestOfCheck 90 = .ok (.iload_n 3, 1) := by decide +kernel
theorem dX2_digestOfCheck_91 : decode cX2_digestOfCheck 91 = .ok (.invokevirtual 179, 3) := by decide +kernel
theorem dX2_digestOfCheck_94 : decode cX2_digestOfCheck 94 = .ok (.i2l, 1) := by decide +kernel
theorem dX2_digestOfCheck_95 : decode cX2_digestOfCheck 95 = .ok (.ladd, 1) := by decide +kernel
theorem dX2_digestOfCheck_96 : decode cX2_digestOfCheck 96 = .ok (.lreturn, 1) := by decide +kernel
theorem dX2_isWithin_0 : decode cX2_isWithin 0 = .ok (.iload_n 0, 1) := by decide +kernel
theorem dX2_isWithin_1 : decode cX2_isWithin 1 = .ok (.iload_n 1, 1) := by decide +kernel
theorem dX2_isWithin_2 : decode cX2_isWithin 2 = .ok (.if_icmp .lt 12, 3) := by decide +kernel
theorem dX2_isWithin_5 : decode cX2_isWithin 5 = .ok (.iload_n 0, 1) := by decide +kernel
theorem dX2_isWithin_6 : decode cX2_isWithin 6 = .ok (.iload_n 2, 1) := by decide +kernel
theorem dX2_isWithin_7 : decode cX2_isWithin 7 = .ok (.if_icmp .gt 7, 3) := by decide +kernel
theorem dX2_isWithin_10 : decode cX2_isWithin 10 = .ok (.iconst 1, 1) := by decide +kernel
theorem dX2_isWithin_11 : decode cX2_isWithin 11 = .ok (.goto 4, 3) := by decide +kernel
theorem dX2_isWithin_14 : decode cX2_isWithin 14 = .ok (.iconst 0, 1) := by decide +kernel
theorem dX2_isWithin_15 : decode cX2_isWithin 15 = .ok (.ireturn, 1) := by decide +kernel
theorem dX2_isBitsBelow_0 : decode cX2_isBitsBelow 0 = .ok (.iload_n 0, 1) := by decide +kernel
theorem dX2_isBitsBelow_1 : decode cX2_isBitsBelow 1 = .ok (.iconst 1, 1) := by decide +kernel
theorem dX2_isBitsBelow_2 : decode cX2_isBitsBelow 2 = .ok (.iload_n 1, 1) := by decide +kernel
theorem dX2_isBitsBelow_3 : decode cX2_isBitsBelow 3 = .ok (.ishl, 1) := by decide +kernel
theorem dX2_isBitsBelow_4 : decode cX2_isBitsBelow 4 = .ok (.ineg, 1) := by decide +kernel
theorem dX2_isBitsBelow_5 : decode cX2_isBitsBelow 5 = .ok (.iand, 1) := by decide +kernel
theorem dX2_isBitsBelow_6 : decode cX2_isBitsBelow 6 = .ok (.ifCond .ne 7, 3) := by decide +kernel
theorem dX2_isBitsBelow_9 : decode cX2_isBitsBelow 9 = .ok (.iconst 1, 1) := by decide +kernel
theorem dX2_isBitsBelow_10 : decode cX2_isBitsBelow 10 = .ok (.goto 4, 3) := by decide +kernel
theorem dX2_isBitsBelow_13 : decode cX2_isBitsBelow 13 = .ok (.iconst 0, 1) := by decide +kernel
theorem dX2_isBitsBelow_14 : decode cX2_isBitsBelow 14 = .ok (.ireturn, 1) := by decide +kernel
theorem dX2_asNumber_0 : decode cX2_asNumber 0 = .ok (.iload_n 0, 1) := by decide +kernel
theorem dX2_asNumber_1 : decode cX2_asNumber 1 = .ok (.ifCond .eq 7, 3) := by decide +kernel
theorem dX2_asNumber_4 : decode cX2_asNumber 4 = .ok (.iconst 1, 1) := by decide +kernel
theorem dX2_asNumber_5 : decode cX2_asNumber 5 = .ok (.goto 4, 3) := by decide +kernel
theorem dX2_asNumber_8 : decode cX2_asNumber 8 = .ok (.iconst 0, 1) := by decide +kernel
theorem dX2_asNumber_9 : decode cX2_asNumber 9 = .ok (.ireturn, 1) := by decide +kernel
set_option maxRecDepth 20000 in
theorem ggX2_checkAt_X2_isWithin : GoodIn wsX2_checkAt wsX2_isWithin := goodIn_r _ [6] (by decide +kernel) (by decide +kernel)
set_option maxRecDepth 20000 in
theorem gX2_checkAt_X2_isWithin : GoodIn wsX2_checkAt (va_wsS RX2 46 yX2_isWithin wsX2_isWithin) := goodIn_app (goodIn_of _ (by decide +kernel)) ggX2_checkAt_X2_isWithin
theorem dX2_checkAt_0 : decode cX2_checkAt 0 = .ok (.iload_n 1, 1) := by decide +kernel
theorem dX2_checkAt_1 : decode cX2_checkAt 1 = .ok (.iconst 0, 1) := by decide +kernel
theorem dX2_checkAt_2 : decode cX2_checkAt 2 = .ok (.aload_n 0, 1) := by decide +kernel
theorem dX2_checkAt_3 : decode cX2_checkAt 3 = .ok (.getfield 15, 3) := by decide +kernel
theorem dX2_checkAt_6 : decode cX2_checkAt 6 = .ok (.iconst 1, 1) := by decide +kernel
theorem dX2_checkAt_7 : decode cX2_checkAt 7 = .ok (.isub, 1) := by decide +kernel
theorem dX2_checkAt_8 : decode cX2_checkAt 8 = .ok (.invokestatic 46, 3) := by decide +kernel
theorem dX2_checkAt_11 : decode cX2_checkAt 11 = .ok (.ifCond .eq 12, 3) := by decide +kernel
theorem dX2_checkAt_14 : decode cX2_checkAt 14 = .ok (.aload_n 0, 1) := by decide +kernel
theorem dX2_checkAt_15 : decode cX2_checkAt 15 = .ok (.getfield 11, 3) := by decide +kernel
theorem dX2_checkAt_18 : decode cX2_checkAt 18 = .ok (.iload_n 1, 1) := by decide +kernel
theorem dX2_checkAt_19 : decode cX2_checkAt 19 = .ok (.aaload, 1) := by decide +kernel
theorem dX2_checkAt_20 : decode cX2_checkAt 20 = .ok (.goto 4, 3) := by decide +kernel
theorem dX2_checkAt_23 : decode cX2_checkAt 23 = .ok (.aconst_null, 1) := by decide +kernel
theorem dX2_checkAt_24 : decode cX2_checkAt 24 = .ok (.areturn, 1) := by decide +kernel
set_option maxRecDepth 20000 in
theorem ggX2_isHeldBack_X2_checkAt : GoodIn wsX2_isHeldBack wsX2_checkAt := goodIn_r _ [7, 8, 9, 10, 11, 6, 12, 37, 38, 39, 40, 41, 42, 43, 44, 45] (by decide +kernel) (by decide +kernel)
set_option maxRecDepth 20000 in
theorem gX2_isHeldBack_X2_checkAt : GoodIn wsX2_isHeldBack (wsV RX2 50 RX2 yX2_checkAt wsX2_checkAt) := goodIn_app (goodIn_of _ (by decide +kernel)) ggX2_isHeldBack_X2_checkAt
set_option maxRecDepth 20000 in
theorem ggX2_isHeldBack_X0_isTroubled : GoodIn wsX2_isHeldBack wsX0_isTroubled := goodIn_r _ [17, 18, 19, 20, 21, 22, 23, 24, 25, 26, 27, 28, 29, 30, 31, 32, 33, 34, 35, 36] (by decide +kernel) (by decide +kernel)
set_option maxRecDepth 20000 in
theorem gX2_isHeldBack_X0_isTroubled : GoodIn wsX2_isHeldBack (wsV RX2 188 RX0 yX0_isTroubled wsX0_isTroubled) := goodIn_app (goodIn_of _ (by decide +kernel)) ggX2_isHeldBack_X0_isTroubled
theorem dX2_isHeldBack_0 : decode cX2_isHeldBack 0 = .ok (.aload_n 1, 1) := by decide +kernel
theorem dX2_isHeldBack_1 : decode cX2_isHeldBack 1 = .ok (.getfield 182, 3) := by decide +kernel
theorem dX2_isHeldBack_4 : decode cX2_isHeldBack 4 = .ok (.iconst 2, 1) := by decide +kernel
theorem dX2_isHeldBack_5 : decode cX2_isHeldBack 5 = .ok (.if_icmp .eq 5, 3) := by decide +kernel
theorem dX2_isHeldBack_8 : decode cX2_isHeldBack 8 = .ok (.iconst 0, 1) := by decide +kernel
theorem dX2_isHeldBack_9 : decode cX2_isHeldBack 9 = .ok (.ireturn, 1) := by decide +kernel
theorem dX2_isHeldBack_10 : decode cX2_isHeldBack 10 = .ok (.aload_n 0, 1) := by decide +kernel
theorem dX2_isHeldBack_11 : decode cX2_isHeldBack 11 = .ok (.aload_n 1, 1) := by decide +kernel
theorem dX2_isHeldBack_12 : decode cX2_isHeldBack 12 = .ok (.getfield 185, 3) := by decide +kernel
theorem dX2_isHeldBack_15 : decode cX2_isHeldBack 15 = .ok (.invokevirtual 50, 3) := by decide +kernel
theorem dX2_isHeldBack_18 : decode cX2_isHeldBack 18 = .ok (.astore_n 2, 1) := by decide +kernel
theorem dX2_isHeldBack_19 : decode cX2_isHeldBack 19 = .ok (.aload_n 2, 1) := by decide +kernel
theorem dX2_isHeldBack_20 : decode cX2_isHeldBack 20 = .ok (.ifnull 14, 3) := by decide +kernel
theorem dX2_isHeldBack_23 : decode cX2_isHeldBack 23 = .ok (.aload_n 2, 1) := by decide +kernel
theorem dX2_isHeldBack_24 : decode cX2_isHeldBack 24 = .ok (.invokevirtual 188, 3) := by decide +kernel
theorem dX2_isHeldBack_27 : decode cX2_isHeldBack 27 = .ok (.ifCond .eq 7, 3) := by decide +kernel
theorem dX2_isHeldBack_30 : decode cX2_isHeldBack 30 = .ok (.iconst 1, 1) := by decide +kernel
theorem dX2_isHeldBack_31 : decode cX2_isHeldBack 31 = .ok (.goto 4, 3) := by decide +kernel
theorem dX2_isHeldBack_34 : decode cX2_isHeldBack 34 = .ok (.iconst 0, 1) := by decide +kernel
theorem dX2_isHeldBack_35 : decode cX2_isHeldBack 35 = .ok (.ireturn, 1) := by decide +kernel
set_option maxRecDepth 20000 in
theorem ggX2_endFor_X2_isHeldBack : GoodIn wsX2_endFor wsX2_isHeldBack := goodIn_r _ [6, 7, 8, 9, 10, 11, 5, 12, 13, 14, 15, 16, 17, 18, 19, 20, 21, 22, 23, 109, 110, 111, 112, 113, 114, 115, 116, 117, 118, 119, 120, 121, 122, 123, 124, 125, 126, 100, 101, 102, 103, 104, 105, 106, 107, 108] (by decide +kernel) (by decide +kernel)
set_option maxRecDepth 20000 in
theorem gX2_endFor_X2_isHeldBack : GoodIn wsX2_endFor (wsV RX2 79 RX2 yX2_isHeldBack wsX2_isHeldBack) := goodIn_app (goodIn_of _ (by decide +kernel)) ggX2_endFor_X2_isHeldBack
set_option maxRecDepth 20000 in
theorem ggX2_endFor_X0_countDrive : GoodIn wsX2_endFor wsX0_countDrive := goodIn_r _ [27, 28, 23, 29, 30, 31, 32, 21, 33, 34, 35, 36, 37, 38, 39, 40, 41, 42, 43, 44, 45, 46, 47, 48, 49, 50, 51, 52, 109, 110, 111, 112, 113, 114, 115, 116, 117, 118, 119, 120, 121, 122, 123, 124, 125, 126] (by decide +kernel) (by decide +kernel)
set_option maxRecDepth 20000 in
theorem gX2_endFor_X0_countDrive : GoodIn wsX2_endFor (wsV RX2 191 RX0 yX0_countDrive wsX0_countDrive) := goodIn_app (goodIn_of _ (by decide +kernel)) ggX2_endFor_X0_countDrive
set_option maxRecDepth 20000 in
theorem ggX2_endFor_X0_noteSet : GoodIn wsX2_endFor wsX0_noteSet := goodIn_r _ [56, 57, 58, 109, 110, 111, 112, 113, 114, 115, 116, 117, 118, 119, 120, 121, 122, 123, 124, 125, 126] (by decide +kernel) (by decide +kernel)
set_option maxRecDepth 20000 in
theorem gX2_endFor_X0_noteSet : GoodIn wsX2_endFor (wsV RX2 195 RX0 yX0_noteSet wsX0_noteSet) := goodIn_app (goodIn_of _ (by decide +kernel)) ggX2_endFor_X0_noteSet
set_option maxRecDepth 20000 in
theorem ggX2_endFor_X2_freeze : GoodIn wsX2_endFor wsX2_freeze := goodIn_r _ [62, 63, 64, 65, 66, 67, 68, 69, 21, 70, 71, 72, 73, 74, 75, 52, 76, 77, 78, 79, 5, 80, 13, 9, 10, 11, 12, 14, 15, 16, 17, 81, 82, 83, 84, 85, 86, 87, 88, 89, 90, 91, 92, 93, 94, 95, 96, 97, 98, 99, 49, 50, 51, 100, 101, 102, 103, 104, 105, 106, 107, 108, 109, 110, 111, 112, 113, 114, 115, 116, 117, 118, 119, 120, 121, 122, 123, 124, 125, 126] (by decide +kernel) (by decide +kernel)
set_option maxRecDepth 20000 in
theorem gX2_endFor_X2_freeze : GoodIn wsX2_endFor (wsV RX2 199 RX2 yX2_freeze wsX2_freeze) := goodIn_app (goodIn_of _ (by decide +kernel)) ggX2_endFor_X2_freeze
theorem dX2_endFor_0 : decode cX2_endFor 0 = .ok (.aload_n 1, 1) := by decide +kernel
theorem dX2_endFor_1 : decode cX2_endFor 1 = .ok (.aload_n 0, 1) := by decide +kernel
theorem dX2_endFor_2 : decode cX2_endFor 2 = .ok (.aload_n 1, 1) := by decide +kernel
theorem dX2_endFor_3 : decode cX2_endFor 3 = .ok (.invokevirtual 79, 3) := by decide +kernel
theorem dX2_endFor_6 : decode cX2_endFor 6 = .ok (.invokevirtual 191, 3) := by decide +kernel
theorem dX2_endFor_9 : decode cX2_endFor 9 = .ok (.istore_n 2, 1) := by decide +kernel
theorem dX2_endFor_10 : decode cX2_endFor 10 = .ok (.iload_n 2, 1) := by decide +kernel
theorem dX2_endFor_11 : decode cX2_endFor 11 = .ok (.ifCond .eq 16, 3) := by decide +kernel
theorem dX2_endFor_14 : decode cX2_endFor 14 = .ok (.aload_n 1, 1) := by decide +kernel
theorem dX2_endFor_15 : decode cX2_endFor 15 = .ok (.aload_n 0, 1) := by decide +kernel
theorem dX2_endFor_16 : decode cX2_endFor 16 = .ok (.getfield 36, 3) := by decide +kernel
theorem dX2_endFor_19 : decode cX2_endFor 19 = .ok (.invokevirtual 195, 3) := by decide +kernel
theorem dX2_endFor_22 : decode cX2_endFor 22 = .ok (.aload_n 0, 1) := by decide +kernel
theorem dX2_endFor_23 : decode cX2_endFor 23 = .ok (.aload_n 1, 1) := by decide +kernel
theorem dX2_endFor_24 : decode cX2_endFor 24 = .ok (.invokevirtual 199, 3) := by decide +kernel
theorem dX2_endFor_27 : decode cX2_endFor 27 = .ok (.iload_n 2, 1) := by decide +kernel
theorem dX2_endFor_28 : decode cX2_endFor 28 = .ok (.ireturn, 1) := by decide +kernel
set_option maxRecDepth 20000 in
theorem ggX2_freeze_X0_freeze : GoodIn wsX2_freeze wsX0_freeze := goodIn_r _ [9, 10, 11, 12, 13, 14, 15, 16, 62, 63, 64, 65, 66, 67, 68, 69, 70, 71, 72, 73, 74, 75, 76, 77, 78, 79] (by decide +kernel) (by decide +kernel)
set_option maxRecDepth 20000 in
theorem gX2_freeze_X0_freeze : GoodIn wsX2_freeze (wsV RX2 203 RX0 yX0_freeze wsX0_freeze) := goodIn_app (goodIn_of _ (by decide +kernel)) ggX2_freeze_X0_freeze
set_option maxRecDepth 20000 in
theorem ggX2_freeze_X2_frozenCount : GoodIn wsX2_freeze wsX2_frozenCount := goodIn_r _ [21, 22, 23, 24, 25, 20, 26, 27, 28, 29, 30, 31, 32, 33, 8, 34, 15, 53, 54, 55, 56, 57, 58, 59, 60, 61, 62, 63, 64, 65, 66, 67, 68, 69, 70, 71, 72, 73, 74, 75, 76, 77, 78, 79] (by decide +kernel) (by decide +kernel)
set_option maxRecDepth 20000 in
theorem gX2_freeze_X2_frozenCount : GoodIn wsX2_freeze (wsV RX2 69 RX2 yX2_frozenCount wsX2_frozenCount) := goodIn_app (goodIn_of _ (by decide +kernel)) ggX2_freeze_X2_frozenCount
set_option maxRecDepth 20000 in
theorem ggX2_freeze_X2_leastFrozen : GoodIn wsX2_freeze wsX2_leastFrozen := goodIn_r _ [38, 22, 23, 24, 25, 20, 26, 27, 28, 29, 30, 31, 32, 33, 8, 34, 15, 39, 40, 41, 42, 43, 44, 45, 46, 47, 48, 16, 53, 54, 55, 56, 57, 58, 59, 60, 61, 62, 63, 64, 65, 66, 67, 68, 69, 70, 71, 72, 73, 74, 75, 76, 77, 78, 79] (by decide +kernel) (by decide +kernel)
set_option maxRecDepth 20000 in
theorem gX2_freeze_X2_leastFrozen : GoodIn wsX2_freeze (wsV RX2 72 RX2 yX2_leastFrozen wsX2_leastFrozen) := goodIn_app (goodIn_of _ (by decide +kernel)) ggX2_freeze_X2_leastFrozen
set_option maxRecDepth 20000 in
theorem ggX2_freeze_X0_thaw : GoodIn wsX2_freeze wsX0_thaw := goodIn_r _ [52, 15, 62, 63, 64, 65, 66, 67, 68, 69, 70, 71, 72, 73, 74, 75, 76, 77, 78, 79] (by decide +kernel) (by decide +kernel)
set_option maxRecDepth 20000 in
theorem gX2_freeze_X0_thaw : GoodIn wsX2_freeze (wsV RX2 76 RX0 yX0_thaw wsX0_thaw) := goodIn_app (goodIn_of _ (by decide +kernel)) ggX2_freeze_X0_thaw
theorem dX2_freeze_0 : decode cX2_freeze 0 = .ok (.aload_n 1, 1) := by decide +kernel
theorem dX2_freeze_1 : decode cX2_freeze 1 = .ok (.aload_n 0, 1) := by decide +kernel
theorem dX2_freeze_2 : decode cX2_freeze 2 = .ok (.getfield 19, 3) := by decide +kernel
theorem dX2_freeze_5 : decode cX2_freeze 5 = .ok (.aload_n 0, 1) := by decide +kernel
theorem dX2_freeze_6 : decode cX2_freeze 6 = .ok (.getfield 29, 3) := by decide +kernel
theorem dX2_freeze_9 : decode cX2_freeze 9 = .ok (.aload_n 0, 1) := by decide +kernel
theorem dX2_freeze_10 : decode cX2_freeze 10 = .ok (.getfield 26, 3) := by decide +kernel
theorem dX2_freeze_13 : decode cX2_freeze 13 = .ok (.invokevirtual 203, 3) := by decide +kernel
theorem dX2_freeze_16 : decode cX2_freeze 16 = .ok (.aload_n 0, 1) := by decide +kernel
theorem dX2_freeze_17 : decode cX2_freeze 17 = .ok (.dup, 1) := by decide +kernel
theorem dX2_freeze_18 : decode cX2_freeze 18 = .ok (.getfield 26, 3) := by decide +kernel
theorem dX2_freeze_21 : decode cX2_freeze 21 = .ok (.iconst 1, 1) := by decide +kernel
theorem dX2_freeze_22 : decode cX2_freeze 22 = .ok (.iadd, 1) := by decide +kernel
theorem dX2_freeze_23 : decode cX2_freeze 23 = .ok (.putfield 26, 3) := by decide +kernel
theorem dX2_freeze_26 : decode cX2_freeze 26 = .ok (.aload_n 0, 1) := by decide +kernel
theorem dX2_freeze_27 : decode cX2_freeze 27 = .ok (.invokevirtual 69, 3) := by decide +kernel
theorem dX2_freeze_30 : decode cX2_freeze 30 = .ok (.aload_n 0, 1) := by decide +kernel
theorem dX2_freeze_31 : decode cX2_freeze 31 = .ok (.getfield 23, 3) := by decide +kernel
theorem dX2_freeze_34 : decode cX2_freeze 34 = .ok (.if_icmp .gt 4, 3) := by decide +kernel
theorem dX2_freeze_37 : decode cX2_freeze 37 = .ok (.return_, 1) := by decide +kernel
theorem dX2_freeze_38 : decode cX2_freeze 38 = .ok (.aload_n 0, 1) := by decide +kernel
theorem dX2_freeze_39 : decode cX2_freeze 39 = .ok (.invokevirtual 72, 3) := by decide +kernel
theorem dX2_freeze_42 : decode cX2_freeze 42 = .ok (.astore_n 2, 1) := by decide +kernel
theorem dX2_freeze_43 : decode cX2_freeze 43 = .ok (.aload_n 2, 1) := by decide +kernel
theorem dX2_freeze_44 : decode cX2_freeze 44 = .ok (.ifnonnull 5, 3) := by decide +kernel
theorem dX2_freeze_47 : decode cX2_freeze 47 = .ok (.aload_n 1, 1) := by decide +kernel
theorem dX2_freeze_48 : decode cX2_freeze 48 = .ok (.astore_n 2, 1) := by decide +kernel
theorem dX2_freeze_49 : decode cX2_freeze 49 = .ok (.aload_n 2, 1) := by decide +kernel
theorem dX2_freeze_50 : decode cX2_freeze 50 = .ok (.invokevirtual 76, 3) := by decide +kernel
theorem dX2_freeze_53 : decode cX2_freeze 53 = .ok (.return_, 1) := by decide +kernel
set_option maxRecDepth 20000 in
theorem ggX2_frozenCount_X2_checkAt : GoodIn wsX2_frozenCount wsX2_checkAt := goodIn_r _ [6, 1, 7, 8, 9, 5, 10, 17, 18, 19, 20, 21, 22, 23, 24, 25] (by decide +kernel) (by decide +kernel)
set_option maxRecDepth 20000 in
theorem gX2_frozenCount_X2_checkAt : GoodIn wsX2_frozenCount (wsV RX2 50 RX2 yX2_checkAt wsX2_checkAt) := goodIn_app (goodIn_of _ (by decide +kernel)) ggX2_frozenCount_X2_checkAt
set_option maxRecDepth 20000 in
theorem ggX2_frozenCount_X0_isFrozen : GoodIn wsX2_frozenCount wsX0_isFrozen := goodIn_r _ [15, 16, 26, 27, 28, 29, 30, 31, 32, 33, 34, 35, 36, 37, 38, 39, 40, 41, 42, 43] (by decide +kernel) (by decide +kernel)
set_option maxRecDepth 20000 in
theorem gX2_frozenCount_X0_isFrozen : GoodIn wsX2_frozenCount (wsV RX2 90 RX0 yX0_isFrozen wsX0_isFrozen) := goodIn_app (goodIn_of _ (by decide +kernel)) ggX2_frozenCount_X0_isFrozen
theorem dX2_frozenCount_0 : decode cX2_frozenCount 0 = .ok (.iconst 0, 1) := by decide +kernel
theorem dX2_frozenCount_1 : decode cX2_frozenCount 1 = .ok (.istore_n 1, 1) := by decide +kernel
theorem dX2_frozenCount_2 : decode cX2_frozenCount 2 = .ok (.iconst 0, 1) := by decide +kernel
theorem dX2_frozenCount_3 : decode cX2_frozenCount 3 = .ok (.istore_n 2, 1) := by decide +kernel
theorem dX2_frozenCount_4 : decode cX2_frozenCount 4 = .ok (.iload_n 2, 1) := by decide +kernel
theorem dX2_frozenCount_5 : decode cX2_frozenCount 5 = .ok (.aload_n 0, 1) := by decide +kernel
theorem dX2_frozenCount_6 : decode cX2_frozenCount 6 = .ok (.getfield 15, 3) := by decide +kernel
theorem dX2_frozenCount_9 : decode cX2_frozenCount 9 = .ok (.if_icmp .ge 29, 3) := by decide +kernel
theorem dX2_frozenCount_12 : decode cX2_frozenCount 12 = .ok (.aload_n 0, 1) := by decide +kernel
theorem dX2_frozenCount_13 : decode cX2_frozenCount 13 = .ok (.iload_n 2, 1) := by decide +kernel
theorem dX2_frozenCount_14 : decode cX2_frozenCount 14 = .ok (.invokevirtual 50, 3) := by decide +kernel
theorem dX2_frozenCount_17 : decode cX2_frozenCount 17 = .ok (.astore_n 3, 1) := by decide +kernel
theorem dX2_frozenCount_18 : decode cX2_frozenCount 18 = .ok (.aload_n 3, 1) := by decide +kernel
theorem dX2_frozenCount_19 : decode cX2_frozenCount 19 = .ok (.ifnull 13, 3) := by decide +kernel
theorem dX2_frozenCount_22 : decode cX2_frozenCount 22 = .ok (.aload_n 3, 1) := by decide +kernel
theorem dX2_frozenCount_23 : decode cX2_frozenCount 23 = .ok (.invokevirtual 90, 3) := by decide +kernel
theorem dX2_frozenCount_26 : decode cX2_frozenCount 26 = .ok (.ifCond .eq 6, 3) := by decide +kernel
theorem dX2_frozenCount_29 : decode cX2_frozenCount 29 = .ok (.iinc 1 1, 3) := by decide +kernel
theorem dX2_frozenCount_32 : decode cX2_frozenCount 32 = .ok (.iinc 2 1, 3) := by decide +kernel
theorem dX2_frozenCount_35 : decode cX2_frozenCount 35 = .ok (.goto (-31), 3) := by decide +kernel
theorem dX2_frozenCount_38 : decode cX2_frozenCount 38 = .ok (.iload_n 1, 1) := by decide +kernel
theorem dX2_frozenCount_39 : decode cX2_frozenCount 39 = .ok (.ireturn, 1) := by decide +kernel
set_option maxRecDepth 20000 in
theorem ggX2_leastFrozen_X2_checkAt : GoodIn wsX2_leastFrozen wsX2_checkAt := goodIn_r _ [6, 1, 7, 8, 9, 5, 10, 28, 29, 30, 31, 32, 33, 34, 35, 36] (by decide +kernel) (by decide +kernel)
set_option maxRecDepth 20000 in
theorem gX2_leastFrozen_X2_checkAt : GoodIn wsX2_leastFrozen (wsV RX2 50 RX2 yX2_checkAt wsX2_checkAt) := goodIn_app (goodIn_of _ (by decide +kernel)) ggX2_leastFrozen_X2_checkAt
set_option maxRecDepth 20000 in
theorem ggX2_leastFrozen_X0_isFrozen : GoodIn wsX2_leastFrozen wsX0_isFrozen := goodIn_r _ [15, 16, 37, 38, 39, 40, 41, 42, 43, 44, 45, 46, 47, 48, 49, 50, 51, 52, 53, 54] (by decide +kernel) (by decide +kernel)
set_option maxRecDepth 20000 in
theorem gX2_leastFrozen_X0_isFrozen : GoodIn wsX2_leastFrozen (wsV RX2 90 RX0 yX0_isFrozen wsX0_isFrozen) := goodIn_app (goodIn_of _ (by decide +kernel)) ggX2_leastFrozen_X0_isFrozen
set_option maxRecDepth 20000 in
theorem ggX2_leastFrozen_X0_isPermanent : GoodIn wsX2_leastFrozen wsX0_isPermanent := goodIn_r _ [20, 21, 37, 38, 39, 40, 41, 42, 43, 44, 45, 46, 47, 48, 49, 50, 51, 52, 53, 54] (by decide +kernel) (by decide +kernel)
set_option maxRecDepth 20000 in
theorem gX2_leastFrozen_X0_isPermanent : GoodIn wsX2_leastFrozen (wsV RX2 206 RX0 yX0_isPermanent wsX0_isPermanent) := goodIn_app (goodIn_of _ (by decide +kernel)) ggX2_leastFrozen_X0_isPermanent
set_option maxRecDepth 20000 in
theorem ggX2_leastFrozen_X0_goesAheadOf : GoodIn wsX2_leastFrozen wsX0_goesAheadOf := goodIn_r _ [25, 26, 27, 37, 38, 39, 40, 41, 42, 43, 44, 45, 46, 47, 48, 49, 50, 51, 52, 53, 54] (by decide +kernel) (by decide +kernel)
set_option maxRecDepth 20000 in
theorem gX2_leastFrozen_X0_goesAheadOf : GoodIn wsX2_leastFrozen (wsV RX2 209 RX0 yX0_goesAheadOf wsX0_goesAheadOf) := goodIn_app (goodIn_of _ (by decide +kernel)) ggX2_leastFrozen_X0_goesAheadOf
theorem dX2_leastFrozen_0 : decode cX2_leastFrozen 0 = .ok (.aconst_null, 1) := by decide +kernel
theorem dX2_leastFrozen_1 : decode cX2_leastFrozen 1 = .ok (.astore_n 1, 1) := by decide +kernel
theorem dX2_leastFrozen_2 : decode cX2_leastFrozen 2 = .ok (.iconst 0, 1) := by decide +kernel
theorem dX2_leastFrozen_3 : decode cX2_leastFrozen 3 = .ok (.istore_n 2, 1) := by decide +kernel
theorem dX2_leastFrozen_4 : decode cX2_leastFrozen 4 = .ok (.iload_n 2, 1) := by decide +kernel
theorem dX2_leastFrozen_5 : decode cX2_leastFrozen 5 = .ok (.aload_n 0, 1) := by decide +kernel
theorem dX2_leastFrozen_6 : decode cX2_leastFrozen 6 = .ok (.getfield 15, 3) := by decide +kernel
theorem dX2_leastFrozen_9 : decode cX2_leastFrozen 9 = .ok (.if_icmp .ge 50, 3) := by decide +kernel
theorem dX2_leastFrozen_12 : decode cX2_leastFrozen 12 = .ok (.aload_n 0, 1) := by decide +kernel
theorem dX2_leastFrozen_13 : decode cX2_leastFrozen 13 = .ok (.iload_n 2, 1) := by decide +kernel
theorem dX2_leastFrozen_14 : decode cX2_leastFrozen 14 = .ok (.invokevirtual 50, 3) := by decide +kernel
theorem dX2_leastFrozen_17 : decode cX2_leastFrozen 17 = .ok (.astore_n 3, 1) := by decide +kernel
theorem dX2_leastFrozen_18 : decode cX2_leastFrozen 18 = .ok (.aload_n 3, 1) := by decide +kernel
theorem dX2_leastFrozen_19 : decode cX2_leastFrozen 19 = .ok (.ifnull 34, 3) := by decide +kernel
theorem dX2_leastFrozen_22 : decode cX2_leastFrozen 22 = .ok (.aload_n 3, 1) := by decide +kernel
theorem dX2_leastFrozen_23 : decode cX2_leastFrozen 23 = .ok (.invokevirtual 90, 3) := by decide +kernel
theorem dX2_leastFrozen_26 : decode cX2_leastFrozen 26 = .ok (.ifCond .eq 27, 3) := by decide +kernel
theorem dX2_leastFrozen_29 : decode cX2_leastFrozen 29 = .ok (.aload_n 3, 1) := by decide +kernel
theorem dX2_leastFrozen_30 : decode cX2_leastFrozen 30 = .ok (.invokevirtual 206, 3) := by decide +kernel
theorem dX2_leastFrozen_33 : decode cX2_leastFrozen 33 = .ok (.ifCond .eq 6, 3) := by decide +kernel
theorem dX2_leastFrozen_36 : decode cX2_leastFrozen 36 = .ok (.goto 17, 3) := by decide +kernel
theorem dX2_leastFrozen_39 : decode cX2_leastFrozen 39 = .ok (.aload_n 1, 1) := by decide +kernel
theorem dX2_leastFrozen_40 : decode cX2_leastFrozen 40 = .ok (.ifnull 11, 3) := by decide +kernel
theorem dX2_leastFrozen_43 : decode cX2_leastFrozen 43 = .ok (.aload_n 3, 1) := by decide +kernel
theorem dX2_leastFrozen_44 : decode cX2_leastFrozen 44 = .ok (.aload_n 1, 1) := by decide +kernel
theorem dX2_leastFrozen_45 : decode cX2_leastFrozen 45 = .ok (.invokevirtual 209, 3) := by decide +kernel
theorem dX2_leastFrozen_48 : decode cX2_leastFrozen 48 = .ok (.ifCond .eq 5, 3) := by decide +kernel
theorem dX2_leastFrozen_51 : decode cX2_leastFrozen 51 = .ok (.aload_n 3, 1) := by decide +kernel
theorem dX2_leastFrozen_52 : decode cX2_leastFrozen 52 = .ok (.astore_n 1, 1) := by decide +kernel
theorem dX2_leastFrozen_53 : decode cX2_leastFrozen 53 = .ok (.iinc 2 1, 3) := by decide +kernel
theorem dX2_leastFrozen_56 : decode cX2_leastFrozen 56 = .ok (.goto (-52), 3) := by decide +kernel
theorem dX2_leastFrozen_59 : decode cX2_leastFrozen 59 = .ok (.aload_n 1, 1) := by decide +kernel
theorem dX2_leastFrozen_60 : decode cX2_leastFrozen 60 = .ok (.areturn, 1) := by decide +kernel
set_option maxRecDepth 20000 in
theorem ggX2_codeBits_X2_checkAt : GoodIn wsX2_codeBits wsX2_checkAt := goodIn_r _ [7, 1, 8, 9, 10, 6, 11, 12, 13, 14, 15, 16, 17, 18, 19, 20] (by decide +kernel) (by decide +kernel)
set_option maxRecDepth 20000 in
theorem gX2_codeBits_X2_checkAt : GoodIn wsX2_codeBits (wsV RX2 50 RX2 yX2_checkAt wsX2_checkAt) := goodIn_app (goodIn_of _ (by decide +kernel)) ggX2_codeBits_X2_checkAt
theorem dX2_codeBits_0 : decode cX2_codeBits 0 = .ok (.iconst 0, 1) := by decide +kernel
theorem dX2_codeBits_1 : decode cX2_codeBits 1 = .ok (.istore_n 2, 1) := by decide +kernel
theorem dX2_codeBits_2 : decode cX2_codeBits 2 = .ok (.iconst 0, 1) := by decide +kernel
theorem dX2_codeBits_3 : decode cX2_codeBits 3 = .ok (.istore_n 3, 1) := by decide +kernel
theorem dX2_codeBits_4 : decode cX2_codeBits 4 = .ok (.iload_n 3, 1) := by decide +kernel
theorem dX2_codeBits_5 : decode cX2_codeBits 5 = .ok (.aload_n 0, 1) := by decide +kernel
theorem dX2_codeBits_6 : decode cX2_codeBits 6 = .ok (.getfield 15, 3) := by decide +kernel
theorem dX2_codeBits_9 : decode cX2_codeBits 9 = .ok (.if_icmp .ge 36, 3) := by decide +kernel
theorem dX2_codeBits_12 : decode cX2_codeBits 12 = .ok (.aload_n 0, 1) := by decide +kernel
theorem dX2_codeBits_13 : decode cX2_codeBits 13 = .ok (.iload_n 3, 1) := by decide +kernel
theorem dX2_codeBits_14 : decode cX2_codeBits 14 = .ok (.invokevirtual 50, 3) := by decide +kernel
theorem dX2_codeBits_17 : decode cX2_codeBits 17 = .ok (.astore 4, 2) := by decide +kernel
theorem dX2_codeBits_19 : decode cX2_codeBits 19 = .ok (.aload 4, 2) := by decide +kernel
theorem dX2_codeBits_21 : decode cX2_codeBits 21 = .ok (.ifnull 18, 3) := by decide +kernel
theorem dX2_codeBits_24 : decode cX2_codeBits 24 = .ok (.aload 4, 2) := by decide +kernel
theorem dX2_codeBits_26 : decode cX2_codeBits 26 = .ok (.getfield 103, 3) := by decide +kernel
theorem dX2_codeBits_29 : decode cX2_codeBits 29 = .ok (.iload_n 1, 1) := by decide +kernel
theorem dX2_codeBits_30 : decode cX2_codeBits 30 = .ok (.if_icmp .ne 9, 3) := by decide +kernel
theorem dX2_codeBits_33 : decode cX2_codeBits 33 = .ok (.iload_n 2, 1) := by decide +kernel
theorem dX2_codeBits_34 : decode cX2_codeBits 34 = .ok (.iconst 1, 1) := by decide +kernel
theorem dX2_codeBits_35 : decode cX2_codeBits 35 = .ok (.iload_n 3, 1) := by decide +kernel
theorem dX2_codeBits_36 : decode cX2_codeBits 36 = .ok (.ishl, 1) := by decide +kernel
theorem dX2_codeBits_37 : decode cX2_codeBits 37 = .ok (.ior, 1) := by decide +kernel
theorem dX2_codeBits_38 : decode cX2_codeBits 38 = .ok (.istore_n 2, 1) := by decide +kernel
theorem dX2_codeBits_39 : decode cX2_codeBits 39 = .ok (.iinc 3 1, 3) := by decide +kernel
theorem dX2_codeBits_42 : decode cX2_codeBits 42 = .ok (.goto (-38), 3) := by decide +kernel
theorem dX2_codeBits_45 : decode cX2_codeBits 45 = .ok (.iload_n 2, 1) := by decide +kernel
theorem dX2_codeBits_46 : decode cX2_codeBits 46 = .ok (.ireturn, 1) := by decide +kernel
set_option maxRecDepth 20000 in
theorem ggX2_troubledBits_X2_codeBits : GoodIn wsX2_troubledBits wsX2_codeBits := goodIn_r _ [5, 6, 7, 8, 9, 10, 4, 11, 12, 13, 14, 15, 16, 17, 18, 19, 20, 21, 22, 23, 24, 25, 26, 27, 28, 29, 30, 31, 32, 33, 34, 35, 36, 37, 38, 39, 40, 41, 42] (by decide +kernel) (by decide +kernel)
set_option maxRecDepth 20000 in
theorem gX2_troubledBits_X2_codeBits : GoodIn wsX2_troubledBits (wsV RX2 123 RX2 yX2_codeBits wsX2_codeBits) := goodIn_app (goodIn_of _ (by decide +kernel)) ggX2_troubledBits_X2_codeBits
theorem dX2_troubledBits_0 : decode cX2_troubledBits 0 = .ok (.aload_n 0, 1) := by decide +kernel
theorem dX2_troubledBits_1 : decode cX2_troubledBits 1 = .ok (.iconst 1, 1) := by decide +kernel
theorem dX2_troubledBits_2 : decode cX2_troubledBits 2 = .ok (.invokevirtual 123, 3) := by decide +kernel
theorem dX2_troubledBits_5 : decode cX2_troubledBits 5 = .ok (.aload_n 0, 1) := by decide +kernel
theorem dX2_troubledBits_6 : decode cX2_troubledBits 6 = .ok (.iconst 2, 1) := by decide +kernel
theorem dX2_troubledBits_7 : decode cX2_troubledBits 7 = .ok (.invokevirtual 123, 3) := by decide +kernel
theorem dX2_troubledBits_10 : decode cX2_troubledBits 10 = .ok (.ior, 1) := by decide +kernel
theorem dX2_troubledBits_11 : decode cX2_troubledBits 11 = .ok (.ireturn, 1) := by decide +kernel
set_option maxRecDepth 20000 in
theorem ggX2_ranBits_X2_checkAt : GoodIn wsX2_ranBits wsX2_checkAt := goodIn_r _ [7, 1, 8, 9, 10, 6, 11, 12, 13, 14, 15, 16, 17, 18, 19, 20] (by decide +kernel) (by decide +kernel)
set_option maxRecDepth 20000 in
theorem gX2_ranBits_X2_checkAt : GoodIn wsX2_ranBits (wsV RX2 50 RX2 yX2_checkAt wsX2_checkAt) := goodIn_app (goodIn_of _ (by decide +kernel)) ggX2_ranBits_X2_checkAt
theorem dX2_ranBits_0 : decode cX2_ranBits 0 = .ok (.iconst 0, 1) := by decide +kernel
theorem dX2_ranBits_1 : decode cX2_ranBits 1 = .ok (.istore_n 1, 1) := by decide +kernel
theorem dX2_ranBits_2 : decode cX2_ranBits 2 = .ok (.iconst 0, 1) := by decide +kernel
theorem dX2_ranBits_3 : decode cX2_ranBits 3 = .ok (.istore_n 2, 1) := by decide +kernel
theorem dX2_ranBits_4 : decode cX2_ranBits 4 = .ok (.iload_n 2, 1) := by decide +kernel
theorem dX2_ranBits_5 : decode cX2_ranBits 5 = .ok (.aload_n 0, 1) := by decide +kernel
theorem dX2_ranBits_6 : decode cX2_ranBits 6 = .ok (.getfield 15, 3) := by decide +kernel
theorem dX2_ranBits_9 : decode cX2_ranBits 9 = .ok (.if_icmp .ge 32, 3) := by decide +kernel
theorem dX2_ranBits_12 : decode cX2_ranBits 12 = .ok (.aload_n 0, 1) := by decide +kernel
theorem dX2_ranBits_13 : decode cX2_ranBits 13 = .ok (.iload_n 2, 1) := by decide +kernel
theorem dX2_ranBits_14 : decode cX2_ranBits 14 = .ok (.invokevirtual 50, 3) := by decide +kernel
theorem dX2_ranBits_17 : decode cX2_ranBits 17 = .ok (.astore_n 3, 1) := by decide +kernel
theorem dX2_ranBits_18 : decode cX2_ranBits 18 = .ok (.aload_n 3, 1) := by decide +kernel
theorem dX2_ranBits_19 : decode cX2_ranBits 19 = .ok (.ifnull 16, 3) := by decide +kernel
theorem dX2_ranBits_22 : decode cX2_ranBits 22 = .ok (.aload_n 3, 1) := by decide +kernel
theorem dX2_ranBits_23 : decode cX2_ranBits 23 = .ok (.getfield 212, 3) := by decide +kernel
theorem dX2_ranBits_26 : decode cX2_ranBits 26 = .ok (.ifCond .eq 9, 3) := by decide +kernel
theorem dX2_ranBits_29 : decode cX2_ranBits 29 = .ok (.iload_n 1, 1) := by decide +kernel
theorem dX2_ranBits_30 : decode cX2_ranBits 30 = .ok (.iconst 1, 1) := by decide +kernel
theorem dX2_ranBits_31 : decode cX2_ranBits 31 = .ok (.iload_n 2, 1) := by decide +kernel
theorem dX2_ranBits_32 : decode cX2_ranBits 32 = .ok (.ishl, 1) := by decide +kernel
theorem dX2_ranBits_33 : decode cX2_ranBits 33 = .ok (.ior, 1) := by decide +kernel
theorem dX2_ranBits_34 : decode cX2_ranBits 34 = .ok (.istore_n 1, 1) := by decide +kernel
theorem dX2_ranBits_35 : decode cX2_ranBits 35 = .ok (.iinc 2 1, 3) := by decide +kernel
theorem dX2_ranBits_38 : decode cX2_ranBits 38 = .ok (.goto (-34), 3) := by decide +kernel
theorem dX2_ranBits_41 : decode cX2_ranBits 41 = .ok (.iload_n 1, 1) := by decide +kernel
theorem dX2_ranBits_42 : decode cX2_ranBits 42 = .ok (.ireturn, 1) := by decide +kernel
set_option maxRecDepth 20000 in
theorem ggX2_lookAtCodes_X2_ranBits : GoodIn wsX2_lookAtCodes wsX2_ranBits := goodIn_r _ [6, 7, 8, 9, 10, 11, 5, 12, 13, 14, 15, 16, 50, 51, 52, 53, 54, 55, 56, 57, 58, 59, 60, 61, 62, 63, 64, 65, 66, 67, 68, 69, 70, 71, 72, 73, 74, 75, 76] (by decide +kernel) (by decide +kernel)
set_option maxRecDepth 20000 in
theorem gX2_lookAtCodes_X2_ranBits : GoodIn wsX2_lookAtCodes (wsV RX2 120 RX2 yX2_ranBits wsX2_ranBits) := goodIn_app (goodIn_of _ (by decide +kernel)) ggX2_lookAtCodes_X2_ranBits
set_option maxRecDepth 20000 in
theorem ggX2_lookAtCodes_X2_codeBits : GoodIn wsX2_lookAtCodes wsX2_codeBits := goodIn_r _ [20, 7, 21, 9, 10, 11, 5, 12, 13, 14, 15, 16, 50, 51, 52, 53, 54, 55, 56, 57, 58, 59, 60, 61, 62, 63, 64, 65, 66, 67, 68, 69, 70, 71, 72, 73, 74, 75, 76] (by decide +kernel) (by decide +kernel)
set_option maxRecDepth 20000 in
theorem gX2_lookAtCodes_X2_codeBits : GoodIn wsX2_lookAtCodes (wsV RX2 123 RX2 yX2_codeBits wsX2_codeBits) := goodIn_app (goodIn_of _ (by decide +kernel)) ggX2_lookAtCodes_X2_codeBits
set_option maxRecDepth 20000 in
theorem ggX2_lookAtCodes_X1_look : GoodIn wsX2_lookAtCodes wsX1_look := goodIn_r _ [26, 27, 28, 29, 30, 31, 32, 33, 34, 25, 35, 36, 37, 38, 39, 40, 41, 42, 43, 44, 45, 46, 47, 48, 49, 77, 78, 79, 80, 81, 82, 83, 84, 85, 86, 87, 88, 89] (by decide +kernel) (by decide +kernel)
set_option maxRecDepth 20000 in
theorem gX2_lookAtCodes_X1_look : GoodIn wsX2_lookAtCodes (wsV RX2 215 RX1 yX1_look wsX1_look) := goodIn_app (goodIn_of _ (by decide +kernel)) ggX2_lookAtCodes_X1_look
theorem dX2_lookAtCodes_0 : decode cX2_lookAtCodes 0 = .ok (.aload_n 0, 1) := by decide +kernel
theorem dX2_lookAtCodes_1 : decode cX2_lookAtCodes 1 = .ok (.getfield 42, 3) := by decide +kernel
theorem dX2_lookAtCodes_4 : decode cX2_lookAtCodes 4 = .ok (.aload_n 0, 1) := by decide +kernel
theorem dX2_lookAtCodes_5 : decode cX2_lookAtCodes 5 = .ok (.invokevirtual 120, 3) := by decide +kernel
theorem dX2_lookAtCodes_8 : decode cX2_lookAtCodes 8 = .ok (.aload_n 0, 1) := by decide +kernel
theorem dX2_lookAtCodes_9 : decode cX2_lookAtCodes 9 = .ok (.iconst 2, 1) := by decide +kernel
theorem dX2_lookAtCodes_10 : decode cX2_lookAtCodes 10 = .ok (.invokevirtual 123, 3) := by decide +kernel
theorem dX2_lookAtCodes_13 : decode cX2_lookAtCodes 13 = .ok (.invokevirtual 215, 3) := by decide +kernel
theorem dX2_lookAtCodes_16 : decode cX2_lookAtCodes 16 = .ok (.return_, 1) := by decide +kernel
