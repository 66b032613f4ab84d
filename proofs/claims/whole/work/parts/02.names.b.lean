theorem dX0_init_0 : decode cX0_init 0 = .ok (.aload_n 0, 1) := by decide +kernel
theorem dX0_init_1 : decode cX0_init 1 = .ok (.invokespecial 3, 3) := by decide +kernel
theorem dX0_init_4 : decode cX0_init 4 = .ok (.aload_n 0, 1) := by decide +kernel
theorem dX0_init_5 : decode cX0_init 5 = .ok (.iconst 0, 1) := by decide +kernel
theorem dX0_init_6 : decode cX0_init 6 = .ok (.putfield 11, 3) := by decide +kernel
theorem dX0_init_9 : decode cX0_init 9 = .ok (.aload_n 0, 1) := by decide +kernel
theorem dX0_init_10 : decode cX0_init 10 = .ok (.iconst 0, 1) := by decide +kernel
theorem dX0_init_11 : decode cX0_init 11 = .ok (.putfield 15, 3) := by decide +kernel
theorem dX0_init_14 : decode cX0_init 14 = .ok (.aload_n 0, 1) := by decide +kernel
theorem dX0_init_15 : decode cX0_init 15 = .ok (.iconst 0, 1) := by decide +kernel
theorem dX0_init_16 : decode cX0_init 16 = .ok (.putfield 18, 3) := by decide +kernel
theorem dX0_init_19 : decode cX0_init 19 = .ok (.aload_n 0, 1) := by decide +kernel
theorem dX0_init_20 : decode cX0_init 20 = .ok (.iconst 0, 1) := by decide +kernel
theorem dX0_init_21 : decode cX0_init 21 = .ok (.putfield 21, 3) := by decide +kernel
theorem dX0_init_24 : decode cX0_init 24 = .ok (.aload_n 0, 1) := by decide +kernel
theorem dX0_init_25 : decode cX0_init 25 = .ok (.iconst 0, 1) := by decide +kernel
theorem dX0_init_26 : decode cX0_init 26 = .ok (.putfield 24, 3) := by decide +kernel
theorem dX0_init_29 : decode cX0_init 29 = .ok (.aload_n 0, 1) := by decide +kernel
theorem dX0_init_30 : decode cX0_init 30 = .ok (.iconst 0, 1) := by decide +kernel
theorem dX0_init_31 : decode cX0_init 31 = .ok (.putfield 27, 3) := by decide +kernel
theorem dX0_init_34 : decode cX0_init 34 = .ok (.aload_n 0, 1) := by decide +kernel
theorem dX0_init_35 : decode cX0_init 35 = .ok (.iconst (-1), 1) := by decide +kernel
theorem dX0_init_36 : decode cX0_init 36 = .ok (.putfield 31, 3) := by decide +kernel
theorem dX0_init_39 : decode cX0_init 39 = .ok (.aload_n 0, 1) := by decide +kernel
theorem dX0_init_40 : decode cX0_init 40 = .ok (.iconst 0, 1) := by decide +kernel
theorem dX0_init_41 : decode cX0_init 41 = .ok (.putfield 34, 3) := by decide +kernel
theorem dX0_init_44 : decode cX0_init 44 = .ok (.aload_n 0, 1) := by decide +kernel
theorem dX0_init_45 : decode cX0_init 45 = .ok (.iconst 4, 1) := by decide +kernel
theorem dX0_init_46 : decode cX0_init 46 = .ok (.newarray .int, 2) := by decide +kernel
theorem dX0_init_48 : decode cX0_init 48 = .ok (.putfield 37, 3) := by decide +kernel
theorem dX0_init_51 : decode cX0_init 51 = .ok (.aload_n 0, 1) := by decide +kernel
theorem dX0_init_52 : decode cX0_init 52 = .ok (.iconst 0, 1) := by decide +kernel
theorem dX0_init_53 : decode cX0_init 53 = .ok (.putfield 41, 3) := by decide +kernel
theorem dX0_init_56 : decode cX0_init 56 = .ok (.aload_n 0, 1) := by decide +kernel
theorem dX0_init_57 : decode cX0_init 57 = .ok (.bipush 16, 2) := by decide +kernel
theorem dX0_init_59 : decode cX0_init 59 = .ok (.newarray .int, 2) := by decide +kernel
theorem dX0_init_61 : decode cX0_init 61 = .ok (.putfield 44, 3) := by decide +kernel
theorem dX0_init_64 : decode cX0_init 64 = .ok (.aload_n 0, 1) := by decide +kernel
theorem dX0_init_65 : decode cX0_init 65 = .ok (.iload_n 1, 1) := by decide +kernel
theorem dX0_init_66 : decode cX0_init 66 = .ok (.putfield 47, 3) := by decide +kernel
theorem dX0_init_69 : decode cX0_init 69 = .ok (.aload_n 0, 1) := by decide +kernel
theorem dX0_init_70 : decode cX0_init 70 = .ok (.iload_n 2, 1) := by decide +kernel
theorem dX0_init_71 : decode cX0_init 71 = .ok (.putfield 50, 3) := by decide +kernel
theorem dX0_init_74 : decode cX0_init 74 = .ok (.aload_n 0, 1) := by decide +kernel
theorem dX0_init_75 : decode cX0_init 75 = .ok (.iload_n 3, 1) := by decide +kernel
theorem dX0_init_76 : decode cX0_init 76 = .ok (.putfield 53, 3) := by decide +kernel
theorem dX0_init_79 : decode cX0_init 79 = .ok (.aload_n 0, 1) := by decide +kernel
theorem dX0_init_80 : decode cX0_init 80 = .ok (.iload 4, 2) := by decide +kernel
theorem dX0_init_82 : decode cX0_init 82 = .ok (.putfield 56, 3) := by decide +kernel
theorem dX0_init_85 : decode cX0_init 85 = .ok (.aload_n 0, 1) := by decide +kernel
theorem dX0_init_86 : decode cX0_init 86 = .ok (.iload_n 1, 1) := by decide +kernel
theorem dX0_init_87 : decode cX0_init 87 = .ok (.iconst 1, 1) := by decide +kernel
theorem dX0_init_88 : decode cX0_init 88 = .ok (.if_icmp .ne 10, 3) := by decide +kernel
theorem dX0_init_91 : decode cX0_init 91 = .ok (.iconst 2, 1) := by decide +kernel
theorem dX0_init_92 : decode cX0_init 92 = .ok (.iload 5, 2) := by decide +kernel
theorem dX0_init_94 : decode cX0_init 94 = .ok (.imul, 1) := by decide +kernel
theorem dX0_init_95 : decode cX0_init 95 = .ok (.goto 5, 3) := by decide +kernel
theorem dX0_init_98 : decode cX0_init 98 = .ok (.iload 5, 2) := by decide +kernel
theorem dX0_init_100 : decode cX0_init 100 = .ok (.putfield 59, 3) := by decide +kernel
theorem dX0_init_103 : decode cX0_init 103 = .ok (.aload_n 0, 1) := by decide +kernel
theorem dX0_init_104 : decode cX0_init 104 = .ok (.iload 6, 2) := by decide +kernel
theorem dX0_init_106 : decode cX0_init 106 = .ok (.putfield 62, 3) := by decide +kernel
theorem dX0_init_109 : decode cX0_init 109 = .ok (.aload_n 0, 1) := by decide +kernel
theorem dX0_init_110 : decode cX0_init 110 = .ok (.iload 7, 2) := by decide +kernel
theorem dX0_init_112 : decode cX0_init 112 = .ok (.putfield 65, 3) := by decide +kernel
theorem dX0_init_115 : decode cX0_init 115 = .ok (.return_, 1) := by decide +kernel
theorem dX0_isPermanent_0 : decode cX0_isPermanent 0 = .ok (.aload_n 0, 1) := by decide +kernel
theorem dX0_isPermanent_1 : decode cX0_isPermanent 1 = .ok (.getfield 47, 3) := by decide +kernel
theorem dX0_isPermanent_4 : decode cX0_isPermanent 4 = .ok (.iconst 1, 1) := by decide +kernel
theorem dX0_isPermanent_5 : decode cX0_isPermanent 5 = .ok (.if_icmp .ne 7, 3) := by decide +kernel
theorem dX0_isPermanent_8 : decode cX0_isPermanent 8 = .ok (.iconst 1, 1) := by decide +kernel
theorem dX0_isPermanent_9 : decode cX0_isPermanent 9 = .ok (.goto 4, 3) := by decide +kernel
theorem dX0_isPermanent_12 : decode cX0_isPermanent 12 = .ok (.iconst 0, 1) := by decide +kernel
theorem dX0_isPermanent_13 : decode cX0_isPermanent 13 = .ok (.ireturn, 1) := by decide +kernel
theorem dX0_isTroubled_0 : decode cX0_isTroubled 0 = .ok (.aload_n 0, 1) := by decide +kernel
theorem dX0_isTroubled_1 : decode cX0_isTroubled 1 = .ok (.getfield 11, 3) := by decide +kernel
theorem dX0_isTroubled_4 : decode cX0_isTroubled 4 = .ok (.iconst 1, 1) := by decide +kernel
theorem dX0_isTroubled_5 : decode cX0_isTroubled 5 = .ok (.if_icmp .eq 11, 3) := by decide +kernel
theorem dX0_isTroubled_8 : decode cX0_isTroubled 8 = .ok (.aload_n 0, 1) := by decide +kernel
theorem dX0_isTroubled_9 : decode cX0_isTroubled 9 = .ok (.getfield 11, 3) := by decide +kernel
theorem dX0_isTroubled_12 : decode cX0_isTroubled 12 = .ok (.iconst 2, 1) := by decide +kernel
theorem dX0_isTroubled_13 : decode cX0_isTroubled 13 = .ok (.if_icmp .ne 7, 3) := by decide +kernel
theorem dX0_isTroubled_16 : decode cX0_isTroubled 16 = .ok (.iconst 1, 1) := by decide +kernel
theorem dX0_isTroubled_17 : decode cX0_isTroubled 17 = .ok (.goto 4, 3) := by decide +kernel
theorem dX0_isTroubled_20 : decode cX0_isTroubled 20 = .ok (.iconst 0, 1) := by decide +kernel
theorem dX0_isTroubled_21 : decode cX0_isTroubled 21 = .ok (.ireturn, 1) := by decide +kernel
theorem dX0_isFrozen_0 : decode cX0_isFrozen 0 = .ok (.aload_n 0, 1) := by decide +kernel
theorem dX0_isFrozen_1 : decode cX0_isFrozen 1 = .ok (.getfield 31, 3) := by decide +kernel
theorem dX0_isFrozen_4 : decode cX0_isFrozen 4 = .ok (.iconst (-1), 1) := by decide +kernel
theorem dX0_isFrozen_5 : decode cX0_isFrozen 5 = .ok (.if_icmp .eq 7, 3) := by decide +kernel
theorem dX0_isFrozen_8 : decode cX0_isFrozen 8 = .ok (.iconst 1, 1) := by decide +kernel
theorem dX0_isFrozen_9 : decode cX0_isFrozen 9 = .ok (.goto 4, 3) := by decide +kernel
theorem dX0_isFrozen_12 : decode cX0_isFrozen 12 = .ok (.iconst 0, 1) := by decide +kernel
theorem dX0_isFrozen_13 : decode cX0_isFrozen 13 = .ok (.ireturn, 1) := by decide +kernel
set_option maxRecDepth 20000 in
theorem ggX0_numberOf_X0_isFrozen : GoodIn wsX0_numberOf wsX0_isFrozen := goodIn_r _ [11, 12, 16, 17, 18, 19, 20, 21, 22, 23, 24, 25, 26, 27, 28, 29, 30, 31, 32, 33] (by decide +kernel) (by decide +kernel)
set_option maxRecDepth 20000 in
theorem gX0_numberOf_X0_isFrozen : GoodIn wsX0_numberOf (wsV RX0 68 RX0 yX0_isFrozen wsX0_isFrozen) := goodIn_app (goodIn_of _ (by decide +kernel)) ggX0_numberOf_X0_isFrozen
set_option maxRecDepth 20000 in
theorem ggX0_numberOf_X2_asNumber : GoodIn wsX0_numberOf wsX2_asNumber := goodIn_r _ [15] (by decide +kernel) (by decide +kernel)
set_option maxRecDepth 20000 in
theorem gX0_numberOf_X2_asNumber_n72 : GoodIn wsX0_numberOf (wsX2_asNumber) := ggX0_numberOf_X2_asNumber
theorem dX0_numberOf_0 : decode cX0_numberOf 0 = .ok (.iload_n 1, 1) := by decide +kernel
theorem dX0_numberOf_1 : decode cX0_numberOf 1 = .ok (.tableswitch 88 0 7 #[47, 52, 57, 62, 88, 67, 75, 83], 47) := by decide +kernel
theorem dX0_numberOf_48 : decode cX0_numberOf 48 = .ok (.aload_n 0, 1) := by decide +kernel
theorem dX0_numberOf_49 : decode cX0_numberOf 49 = .ok (.getfield 11, 3) := by decide +kernel
theorem dX0_numberOf_52 : decode cX0_numberOf 52 = .ok (.ireturn, 1) := by decide +kernel
theorem dX0_numberOf_53 : decode cX0_numberOf 53 = .ok (.aload_n 0, 1) := by decide +kernel
theorem dX0_numberOf_54 : decode cX0_numberOf 54 = .ok (.getfield 15, 3) := by decide +kernel
theorem dX0_numberOf_57 : decode cX0_numberOf 57 = .ok (.ireturn, 1) := by decide +kernel
theorem dX0_numberOf_58 : decode cX0_numberOf 58 = .ok (.aload_n 0, 1) := by decide +kernel
theorem dX0_numberOf_59 : decode cX0_numberOf 59 = .ok (.getfield 18, 3) := by decide +kernel
theorem dX0_numberOf_62 : decode cX0_numberOf 62 = .ok (.ireturn, 1) := by decide +kernel
theorem dX0_numberOf_63 : decode cX0_numberOf 63 = .ok (.aload_n 0, 1) := by decide +kernel
theorem dX0_numberOf_64 : decode cX0_numberOf 64 = .ok (.getfield 21, 3) := by decide +kernel
theorem dX0_numberOf_67 : decode cX0_numberOf 67 = .ok (.ireturn, 1) := by decide +kernel
theorem dX0_numberOf_68 : decode cX0_numberOf 68 = .ok (.aload_n 0, 1) := by decide +kernel
theorem dX0_numberOf_69 : decode cX0_numberOf 69 = .ok (.invokevirtual 68, 3) := by decide +kernel
theorem dX0_numberOf_72 : decode cX0_numberOf 72 = .ok (.invokestatic 72, 3) := by decide +kernel
theorem dX0_numberOf_75 : decode cX0_numberOf 75 = .ok (.ireturn, 1) := by decide +kernel
theorem dX0_numberOf_76 : decode cX0_numberOf 76 = .ok (.aload_n 0, 1) := by decide +kernel
theorem dX0_numberOf_77 : decode cX0_numberOf 77 = .ok (.getfield 27, 3) := by decide +kernel
theorem dX0_numberOf_80 : decode cX0_numberOf 80 = .ok (.invokestatic 72, 3) := by decide +kernel
theorem dX0_numberOf_83 : decode cX0_numberOf 83 = .ok (.ireturn, 1) := by decide +kernel
theorem dX0_numberOf_84 : decode cX0_numberOf 84 = .ok (.aload_n 0, 1) := by decide +kernel
theorem dX0_numberOf_85 : decode cX0_numberOf 85 = .ok (.getfield 47, 3) := by decide +kernel
theorem dX0_numberOf_88 : decode cX0_numberOf 88 = .ok (.ireturn, 1) := by decide +kernel
theorem dX0_numberOf_89 : decode cX0_numberOf 89 = .ok (.bipush (-2), 2) := by decide +kernel
theorem dX0_numberOf_91 : decode cX0_numberOf 91 = .ok (.ireturn, 1) := by decide +kernel
theorem dX0_tell_0 : decode cX0_tell 0 = .ok (.iload_n 1, 1) := by decide +kernel
theorem dX0_tell_1 : decode cX0_tell 1 = .ok (.ifCond .eq 11, 3) := by decide +kernel
theorem dX0_tell_4 : decode cX0_tell 4 = .ok (.aload_n 0, 1) := by decide +kernel
theorem dX0_tell_5 : decode cX0_tell 5 = .ok (.iconst 2, 1) := by decide +kernel
theorem dX0_tell_6 : decode cX0_tell 6 = .ok (.putfield 24, 3) := by decide +kernel
theorem dX0_tell_9 : decode cX0_tell 9 = .ok (.goto 15, 3) := by decide +kernel
theorem dX0_tell_12 : decode cX0_tell 12 = .ok (.aload_n 0, 1) := by decide +kernel
theorem dX0_tell_13 : decode cX0_tell 13 = .ok (.getfield 24, 3) := by decide +kernel
theorem dX0_tell_16 : decode cX0_tell 16 = .ok (.ifCond .ne 8, 3) := by decide +kernel
theorem dX0_tell_19 : decode cX0_tell 19 = .ok (.aload_n 0, 1) := by decide +kernel
theorem dX0_tell_20 : decode cX0_tell 20 = .ok (.iconst 1, 1) := by decide +kernel
theorem dX0_tell_21 : decode cX0_tell 21 = .ok (.putfield 24, 3) := by decide +kernel
theorem dX0_tell_24 : decode cX0_tell 24 = .ok (.return_, 1) := by decide +kernel
set_option maxRecDepth 20000 in
theorem ggX0_countDrive_X0_countBad : GoodIn wsX0_countDrive wsX0_countBad := goodIn_r _ [8, 9, 10, 11, 2, 12, 28, 29, 30, 31, 32, 33, 34, 35, 36, 37, 38, 39, 40, 41, 42, 43, 44, 45] (by decide +kernel) (by decide +kernel)
set_option maxRecDepth 20000 in
theorem gX0_countDrive_X0_countBad : GoodIn wsX0_countDrive (wsV RX0 76 RX0 yX0_countBad wsX0_countBad) := goodIn_app (goodIn_of _ (by decide +kernel)) ggX0_countDrive_X0_countBad
set_option maxRecDepth 20000 in
theorem ggX0_countDrive_X0_countGood : GoodIn wsX0_countDrive wsX0_countGood := goodIn_r _ [16, 11, 9, 2, 17, 10, 28, 29, 30, 31, 32, 33, 34, 35, 36, 37, 38, 39, 40, 41, 42, 43, 44, 45] (by decide +kernel) (by decide +kernel)
set_option maxRecDepth 20000 in
theorem gX0_countDrive_X0_countGood : GoodIn wsX0_countDrive (wsV RX0 80 RX0 yX0_countGood wsX0_countGood) := goodIn_app (goodIn_of _ (by decide +kernel)) ggX0_countDrive_X0_countGood
set_option maxRecDepth 20000 in
theorem ggX0_countDrive_X0_growOlder : GoodIn wsX0_countDrive wsX0_growOlder := goodIn_r _ [21, 10, 22, 2, 23, 24, 25, 7, 26, 27, 28, 29, 30, 31, 32, 33, 34, 35, 36, 37, 38, 39, 40, 41, 42, 43, 44, 45] (by decide +kernel) (by decide +kernel)
set_option maxRecDepth 20000 in
theorem gX0_countDrive_X0_growOlder : GoodIn wsX0_countDrive (wsV RX0 83 RX0 yX0_growOlder wsX0_growOlder) := goodIn_app (goodIn_of _ (by decide +kernel)) ggX0_countDrive_X0_growOlder
theorem dX0_countDrive_0 : decode cX0_countDrive 0 = .ok (.iconst 0, 1) := by decide +kernel
theorem dX0_countDrive_1 : decode cX0_countDrive 1 = .ok (.istore_n 2, 1) := by decide +kernel
theorem dX0_countDrive_2 : decode cX0_countDrive 2 = .ok (.aload_n 0, 1) := by decide +kernel
theorem dX0_countDrive_3 : decode cX0_countDrive 3 = .ok (.getfield 24, 3) := by decide +kernel
theorem dX0_countDrive_6 : decode cX0_countDrive 6 = .ok (.iconst 2, 1) := by decide +kernel
theorem dX0_countDrive_7 : decode cX0_countDrive 7 = .ok (.if_icmp .ne 12, 3) := by decide +kernel
theorem dX0_countDrive_10 : decode cX0_countDrive 10 = .ok (.aload_n 0, 1) := by decide +kernel
theorem dX0_countDrive_11 : decode cX0_countDrive 11 = .ok (.iload_n 1, 1) := by decide +kernel
theorem dX0_countDrive_12 : decode cX0_countDrive 12 = .ok (.invokevirtual 76, 3) := by decide +kernel
theorem dX0_countDrive_15 : decode cX0_countDrive 15 = .ok (.istore_n 2, 1) := by decide +kernel
theorem dX0_countDrive_16 : decode cX0_countDrive 16 = .ok (.goto 15, 3) := by decide +kernel
theorem dX0_countDrive_19 : decode cX0_countDrive 19 = .ok (.aload_n 0, 1) := by decide +kernel
theorem dX0_countDrive_20 : decode cX0_countDrive 20 = .ok (.getfield 24, 3) := by decide +kernel
theorem dX0_countDrive_23 : decode cX0_countDrive 23 = .ok (.iconst 1, 1) := by decide +kernel
theorem dX0_countDrive_24 : decode cX0_countDrive 24 = .ok (.if_icmp .ne 7, 3) := by decide +kernel
theorem dX0_countDrive_27 : decode cX0_countDrive 27 = .ok (.aload_n 0, 1) := by decide +kernel
theorem dX0_countDrive_28 : decode cX0_countDrive 28 = .ok (.invokevirtual 80, 3) := by decide +kernel
theorem dX0_countDrive_31 : decode cX0_countDrive 31 = .ok (.aload_n 0, 1) := by decide +kernel
theorem dX0_countDrive_32 : decode cX0_countDrive 32 = .ok (.getfield 11, 3) := by decide +kernel
theorem dX0_countDrive_35 : decode cX0_countDrive 35 = .ok (.iconst 3, 1) := by decide +kernel
theorem dX0_countDrive_36 : decode cX0_countDrive 36 = .ok (.if_icmp .ne 15, 3) := by decide +kernel
theorem dX0_countDrive_39 : decode cX0_countDrive 39 = .ok (.aload_n 0, 1) := by decide +kernel
theorem dX0_countDrive_40 : decode cX0_countDrive 40 = .ok (.getfield 24, 3) := by decide +kernel
theorem dX0_countDrive_43 : decode cX0_countDrive 43 = .ok (.iconst 2, 1) := by decide +kernel
theorem dX0_countDrive_44 : decode cX0_countDrive 44 = .ok (.if_icmp .eq 7, 3) := by decide +kernel
theorem dX0_countDrive_47 : decode cX0_countDrive 47 = .ok (.aload_n 0, 1) := by decide +kernel
theorem dX0_countDrive_48 : decode cX0_countDrive 48 = .ok (.invokevirtual 83, 3) := by decide +kernel
theorem dX0_countDrive_51 : decode cX0_countDrive 51 = .ok (.aload_n 0, 1) := by decide +kernel
theorem dX0_countDrive_52 : decode cX0_countDrive 52 = .ok (.getfield 24, 3) := by decide +kernel
theorem dX0_countDrive_55 : decode cX0_countDrive 55 = .ok (.ifCond .eq 8, 3) := by decide +kernel
theorem dX0_countDrive_58 : decode cX0_countDrive 58 = .ok (.aload_n 0, 1) := by decide +kernel
theorem dX0_countDrive_59 : decode cX0_countDrive 59 = .ok (.iconst 1, 1) := by decide +kernel
theorem dX0_countDrive_60 : decode cX0_countDrive 60 = .ok (.putfield 27, 3) := by decide +kernel
theorem dX0_countDrive_63 : decode cX0_countDrive 63 = .ok (.aload_n 0, 1) := by decide +kernel
theorem dX0_countDrive_64 : decode cX0_countDrive 64 = .ok (.iconst 0, 1) := by decide +kernel
theorem dX0_countDrive_65 : decode cX0_countDrive 65 = .ok (.putfield 24, 3) := by decide +kernel
theorem dX0_countDrive_68 : decode cX0_countDrive 68 = .ok (.iload_n 2, 1) := by decide +kernel
theorem dX0_countDrive_69 : decode cX0_countDrive 69 = .ok (.ireturn, 1) := by decide +kernel
theorem dX0_countBad_0 : decode cX0_countBad 0 = .ok (.aload_n 0, 1) := by decide +kernel
theorem dX0_countBad_1 : decode cX0_countBad 1 = .ok (.iconst 0, 1) := by decide +kernel
theorem dX0_countBad_2 : decode cX0_countBad 2 = .ok (.putfield 18, 3) := by decide +kernel
theorem dX0_countBad_5 : decode cX0_countBad 5 = .ok (.aload_n 0, 1) := by decide +kernel
theorem dX0_countBad_6 : decode cX0_countBad 6 = .ok (.iconst 0, 1) := by decide +kernel
theorem dX0_countBad_7 : decode cX0_countBad 7 = .ok (.putfield 21, 3) := by decide +kernel
theorem dX0_countBad_10 : decode cX0_countBad 10 = .ok (.aload_n 0, 1) := by decide +kernel
theorem dX0_countBad_11 : decode cX0_countBad 11 = .ok (.dup, 1) := by decide +kernel
theorem dX0_countBad_12 : decode cX0_countBad 12 = .ok (.getfield 15, 3) := by decide +kernel
theorem dX0_countBad_15 : decode cX0_countBad 15 = .ok (.iconst 1, 1) := by decide +kernel
theorem dX0_countBad_16 : decode cX0_countBad 16 = .ok (.iadd, 1) := by decide +kernel
theorem dX0_countBad_17 : decode cX0_countBad 17 = .ok (.putfield 15, 3) := by decide +kernel
theorem dX0_countBad_20 : decode cX0_countBad 20 = .ok (.aload_n 0, 1) := by decide +kernel
theorem dX0_countBad_21 : decode cX0_countBad 21 = .ok (.getfield 11, 3) := by decide +kernel
theorem dX0_countBad_24 : decode cX0_countBad 24 = .ok (.ifCond .ne 8, 3) := by decide +kernel
theorem dX0_countBad_27 : decode cX0_countBad 27 = .ok (.aload_n 0, 1) := by decide +kernel
theorem dX0_countBad_28 : decode cX0_countBad 28 = .ok (.iconst 1, 1) := by decide +kernel
theorem dX0_countBad_29 : decode cX0_countBad 29 = .ok (.putfield 11, 3) := by decide +kernel
theorem dX0_countBad_32 : decode cX0_countBad 32 = .ok (.aload_n 0, 1) := by decide +kernel
theorem dX0_countBad_33 : decode cX0_countBad 33 = .ok (.getfield 11, 3) := by decide +kernel
theorem dX0_countBad_36 : decode cX0_countBad 36 = .ok (.iconst 3, 1) := by decide +kernel
theorem dX0_countBad_37 : decode cX0_countBad 37 = .ok (.if_icmp .eq 22, 3) := by decide +kernel
theorem dX0_countBad_40 : decode cX0_countBad 40 = .ok (.aload_n 0, 1) := by decide +kernel
theorem dX0_countBad_41 : decode cX0_countBad 41 = .ok (.getfield 11, 3) := by decide +kernel
theorem dX0_countBad_44 : decode cX0_countBad 44 = .ok (.iconst 1, 1) := by decide +kernel
theorem dX0_countBad_45 : decode cX0_countBad 45 = .ok (.if_icmp .ne 18, 3) := by decide +kernel
theorem dX0_countBad_48 : decode cX0_countBad 48 = .ok (.aload_n 0, 1) := by decide +kernel
theorem dX0_countBad_49 : decode cX0_countBad 49 = .ok (.getfield 15, 3) := by decide +kernel
theorem dX0_countBad_52 : decode cX0_countBad 52 = .ok (.aload_n 0, 1) := by decide +kernel
theorem dX0_countBad_53 : decode cX0_countBad 53 = .ok (.getfield 53, 3) := by decide +kernel
theorem dX0_countBad_56 : decode cX0_countBad 56 = .ok (.if_icmp .lt 7, 3) := by decide +kernel
theorem dX0_countBad_59 : decode cX0_countBad 59 = .ok (.iconst 1, 1) := by decide +kernel
theorem dX0_countBad_60 : decode cX0_countBad 60 = .ok (.goto 4, 3) := by decide +kernel
theorem dX0_countBad_63 : decode cX0_countBad 63 = .ok (.iconst 0, 1) := by decide +kernel
theorem dX0_countBad_64 : decode cX0_countBad 64 = .ok (.istore_n 2, 1) := by decide +kernel
theorem dX0_countBad_65 : decode cX0_countBad 65 = .ok (.iload_n 2, 1) := by decide +kernel
theorem dX0_countBad_66 : decode cX0_countBad 66 = .ok (.ifCond .eq 7, 3) := by decide +kernel
theorem dX0_countBad_69 : decode cX0_countBad 69 = .ok (.iload_n 1, 1) := by decide +kernel
theorem dX0_countBad_70 : decode cX0_countBad 70 = .ok (.ifCond .eq 5, 3) := by decide +kernel
theorem dX0_countBad_73 : decode cX0_countBad 73 = .ok (.iconst 0, 1) := by decide +kernel
theorem dX0_countBad_74 : decode cX0_countBad 74 = .ok (.ireturn, 1) := by decide +kernel
theorem dX0_countBad_75 : decode cX0_countBad 75 = .ok (.aload_n 0, 1) := by decide +kernel
theorem dX0_countBad_76 : decode cX0_countBad 76 = .ok (.iconst 2, 1) := by decide +kernel
theorem dX0_countBad_77 : decode cX0_countBad 77 = .ok (.putfield 11, 3) := by decide +kernel
theorem dX0_countBad_80 : decode cX0_countBad 80 = .ok (.iconst 1, 1) := by decide +kernel
theorem dX0_countBad_81 : decode cX0_countBad 81 = .ok (.ireturn, 1) := by decide +kernel
theorem dX0_countGood_0 : decode cX0_countGood 0 = .ok (.aload_n 0, 1) := by decide +kernel
theorem dX0_countGood_1 : decode cX0_countGood 1 = .ok (.iconst 0, 1) := by decide +kernel
theorem dX0_countGood_2 : decode cX0_countGood 2 = .ok (.putfield 15, 3) := by decide +kernel
theorem dX0_countGood_5 : decode cX0_countGood 5 = .ok (.aload_n 0, 1) := by decide +kernel
theorem dX0_countGood_6 : decode cX0_countGood 6 = .ok (.dup, 1) := by decide +kernel
theorem dX0_countGood_7 : decode cX0_countGood 7 = .ok (.getfield 18, 3) := by decide +kernel
theorem dX0_countGood_10 : decode cX0_countGood 10 = .ok (.iconst 1, 1) := by decide +kernel
theorem dX0_countGood_11 : decode cX0_countGood 11 = .ok (.iadd, 1) := by decide +kernel
theorem dX0_countGood_12 : decode cX0_countGood 12 = .ok (.putfield 18, 3) := by decide +kernel
theorem dX0_countGood_15 : decode cX0_countGood 15 = .ok (.aload_n 0, 1) := by decide +kernel
theorem dX0_countGood_16 : decode cX0_countGood 16 = .ok (.getfield 11, 3) := by decide +kernel
theorem dX0_countGood_19 : decode cX0_countGood 19 = .ok (.iconst 1, 1) := by decide +kernel
theorem dX0_countGood_20 : decode cX0_countGood 20 = .ok (.if_icmp .ne 19, 3) := by decide +kernel
theorem dX0_countGood_23 : decode cX0_countGood 23 = .ok (.aload_n 0, 1) := by decide +kernel
theorem dX0_countGood_24 : decode cX0_countGood 24 = .ok (.getfield 18, 3) := by decide +kernel
theorem dX0_countGood_27 : decode cX0_countGood 27 = .ok (.iconst 1, 1) := by decide +kernel
theorem dX0_countGood_28 : decode cX0_countGood 28 = .ok (.if_icmp .ne 11, 3) := by decide +kernel
theorem dX0_countGood_31 : decode cX0_countGood 31 = .ok (.aload_n 0, 1) := by decide +kernel
theorem dX0_countGood_32 : decode cX0_countGood 32 = .ok (.iconst 0, 1) := by decide +kernel
theorem dX0_countGood_33 : decode cX0_countGood 33 = .ok (.putfield 11, 3) := by decide +kernel
theorem dX0_countGood_36 : decode cX0_countGood 36 = .ok (.goto 32, 3) := by decide +kernel
theorem dX0_countGood_39 : decode cX0_countGood 39 = .ok (.aload_n 0, 1) := by decide +kernel
theorem dX0_countGood_40 : decode cX0_countGood 40 = .ok (.getfield 11, 3) := by decide +kernel
theorem dX0_countGood_43 : decode cX0_countGood 43 = .ok (.iconst 2, 1) := by decide +kernel
theorem dX0_countGood_44 : decode cX0_countGood 44 = .ok (.if_icmp .ne 24, 3) := by decide +kernel
theorem dX0_countGood_47 : decode cX0_countGood 47 = .ok (.aload_n 0, 1) := by decide +kernel
theorem dX0_countGood_48 : decode cX0_countGood 48 = .ok (.getfield 18, 3) := by decide +kernel
theorem dX0_countGood_51 : decode cX0_countGood 51 = .ok (.aload_n 0, 1) := by decide +kernel
theorem dX0_countGood_52 : decode cX0_countGood 52 = .ok (.getfield 56, 3) := by decide +kernel
theorem dX0_countGood_55 : decode cX0_countGood 55 = .ok (.if_icmp .ne 13, 3) := by decide +kernel
theorem dX0_countGood_58 : decode cX0_countGood 58 = .ok (.aload_n 0, 1) := by decide +kernel
theorem dX0_countGood_59 : decode cX0_countGood 59 = .ok (.iconst 3, 1) := by decide +kernel
theorem dX0_countGood_60 : decode cX0_countGood 60 = .ok (.putfield 11, 3) := by decide +kernel
theorem dX0_countGood_63 : decode cX0_countGood 63 = .ok (.aload_n 0, 1) := by decide +kernel
theorem dX0_countGood_64 : decode cX0_countGood 64 = .ok (.iconst 0, 1) := by decide +kernel
theorem dX0_countGood_65 : decode cX0_countGood 65 = .ok (.putfield 21, 3) := by decide +kernel
theorem dX0_countGood_68 : decode cX0_countGood 68 = .ok (.return_, 1) := by decide +kernel
set_option maxRecDepth 20000 in
theorem ggX0_growOlder_X0_thaw : GoodIn wsX0_growOlder wsX0_thaw := goodIn_r _ [8, 9, 10, 11, 12, 13, 14, 15, 16, 17, 18, 19, 20, 21, 22, 23, 24, 25, 26, 27] (by decide +kernel) (by decide +kernel)
set_option maxRecDepth 20000 in
theorem gX0_growOlder_X0_thaw : GoodIn wsX0_growOlder (wsV RX0 86 RX0 yX0_thaw wsX0_thaw) := goodIn_app (goodIn_of _ (by decide +kernel)) ggX0_growOlder_X0_thaw
theorem dX0_growOlder_0 : decode cX0_growOlder 0 = .ok (.aload_n 0, 1) := by decide +kernel
theorem dX0_growOlder_1 : decode cX0_growOlder 1 = .ok (.dup, 1) := by decide +kernel
theorem dX0_growOlder_2 : decode cX0_growOlder 2 = .ok (.getfield 21, 3) := by decide +kernel
theorem dX0_growOlder_5 : decode cX0_growOlder 5 = .ok (.iconst 1, 1) := by decide +kernel
theorem dX0_growOlder_6 : decode cX0_growOlder 6 = .ok (.iadd, 1) := by decide +kernel
theorem dX0_growOlder_7 : decode cX0_growOlder 7 = .ok (.putfield 21, 3) := by decide +kernel
theorem dX0_growOlder_10 : decode cX0_growOlder 10 = .ok (.aload_n 0, 1) := by decide +kernel
theorem dX0_growOlder_11 : decode cX0_growOlder 11 = .ok (.getfield 21, 3) := by decide +kernel
theorem dX0_growOlder_14 : decode cX0_growOlder 14 = .ok (.aload_n 0, 1) := by decide +kernel
theorem dX0_growOlder_15 : decode cX0_growOlder 15 = .ok (.getfield 59, 3) := by decide +kernel
theorem dX0_growOlder_18 : decode cX0_growOlder 18 = .ok (.if_icmp .ge 4, 3) := by decide +kernel
theorem dX0_growOlder_21 : decode cX0_growOlder 21 = .ok (.return_, 1) := by decide +kernel
theorem dX0_growOlder_22 : decode cX0_growOlder 22 = .ok (.aload_n 0, 1) := by decide +kernel
theorem dX0_growOlder_23 : decode cX0_growOlder 23 = .ok (.iconst 0, 1) := by decide +kernel
theorem dX0_growOlder_24 : decode cX0_growOlder 24 = .ok (.putfield 11, 3) := by decide +kernel
theorem dX0_growOlder_27 : decode cX0_growOlder 27 = .ok (.aload_n 0, 1) := by decide +kernel
theorem dX0_growOlder_28 : decode cX0_growOlder 28 = .ok (.invokevirtual 86, 3) := by decide +kernel
theorem dX0_growOlder_31 : decode cX0_growOlder 31 = .ok (.return_, 1) := by decide +kernel
theorem dX0_noteSet_0 : decode cX0_noteSet 0 = .ok (.aload_n 0, 1) := by decide +kernel
theorem dX0_noteSet_1 : decode cX0_noteSet 1 = .ok (.dup, 1) := by decide +kernel
theorem dX0_noteSet_2 : decode cX0_noteSet 2 = .ok (.getfield 41, 3) := by decide +kernel
theorem dX0_noteSet_5 : decode cX0_noteSet 5 = .ok (.iconst 1, 1) := by decide +kernel
theorem dX0_noteSet_6 : decode cX0_noteSet 6 = .ok (.iadd, 1) := by decide +kernel
theorem dX0_noteSet_7 : decode cX0_noteSet 7 = .ok (.putfield 41, 3) := by decide +kernel
theorem dX0_noteSet_10 : decode cX0_noteSet 10 = .ok (.iconst 0, 1) := by decide +kernel
theorem dX0_noteSet_11 : decode cX0_noteSet 11 = .ok (.istore_n 2, 1) := by decide +kernel
theorem dX0_noteSet_12 : decode cX0_noteSet 12 = .ok (.iload_n 2, 1) := by decide +kernel
theorem dX0_noteSet_13 : decode cX0_noteSet 13 = .ok (.bipush 16, 2) := by decide +kernel
theorem dX0_noteSet_15 : decode cX0_noteSet 15 = .ok (.if_icmp .ge 27, 3) := by decide +kernel
theorem dX0_noteSet_18 : decode cX0_noteSet 18 = .ok (.iload_n 1, 1) := by decide +kernel
theorem dX0_noteSet_19 : decode cX0_noteSet 19 = .ok (.iload_n 2, 1) := by decide +kernel
theorem dX0_noteSet_20 : decode cX0_noteSet 20 = .ok (.ishr, 1) := by decide +kernel
theorem dX0_noteSet_21 : decode cX0_noteSet 21 = .ok (.iconst 1, 1) := by decide +kernel
theorem dX0_noteSet_22 : decode cX0_noteSet 22 = .ok (.iand, 1) := by decide +kernel
theorem dX0_noteSet_23 : decode cX0_noteSet 23 = .ok (.ifCond .eq 13, 3) := by decide +kernel
theorem dX0_noteSet_26 : decode cX0_noteSet 26 = .ok (.aload_n 0, 1) := by decide +kernel
theorem dX0_noteSet_27 : decode cX0_noteSet 27 = .ok (.getfield 44, 3) := by decide +kernel
theorem dX0_noteSet_30 : decode cX0_noteSet 30 = .ok (.iload_n 2, 1) := by decide +kernel
theorem dX0_noteSet_31 : decode cX0_noteSet 31 = .ok (.dup2, 1) := by decide +kernel
theorem dX0_noteSet_32 : decode cX0_noteSet 32 = .ok (.iaload, 1) := by decide +kernel
theorem dX0_noteSet_33 : decode cX0_noteSet 33 = .ok (.iconst 1, 1) := by decide +kernel
theorem dX0_noteSet_34 : decode cX0_noteSet 34 = .ok (.iadd, 1) := by decide +kernel
theorem dX0_noteSet_35 : decode cX0_noteSet 35 = .ok (.iastore, 1) := by decide +kernel
theorem dX0_noteSet_36 : decode cX0_noteSet 36 = .ok (.iinc 2 1, 3) := by decide +kernel
theorem dX0_noteSet_39 : decode cX0_noteSet 39 = .ok (.goto (-27), 3) := by decide +kernel
theorem dX0_noteSet_42 : decode cX0_noteSet 42 = .ok (.return_, 1) := by decide +kernel
theorem dX0_freeze_0 : decode cX0_freeze 0 = .ok (.aload_n 1, 1) := by decide +kernel
theorem dX0_freeze_1 : decode cX0_freeze 1 = .ok (.iconst 0, 1) := by decide +kernel
theorem dX0_freeze_2 : decode cX0_freeze 2 = .ok (.aload_n 0, 1) := by decide +kernel
theorem dX0_freeze_3 : decode cX0_freeze 3 = .ok (.getfield 37, 3) := by decide +kernel
theorem dX0_freeze_6 : decode cX0_freeze 6 = .ok (.iconst 0, 1) := by decide +kernel
theorem dX0_freeze_7 : decode cX0_freeze 7 = .ok (.iconst 4, 1) := by decide +kernel
theorem dX0_freeze_8 : decode cX0_freeze 8 = .ok (.invokestatic 89, 3) := by decide +kernel
theorem dX0_freeze_11 : decode cX0_freeze 11 = .ok (.aload_n 0, 1) := by decide +kernel
theorem dX0_freeze_12 : decode cX0_freeze 12 = .ok (.iload_n 2, 1) := by decide +kernel
theorem dX0_freeze_13 : decode cX0_freeze 13 = .ok (.putfield 31, 3) := by decide +kernel
theorem dX0_freeze_16 : decode cX0_freeze 16 = .ok (.aload_n 0, 1) := by decide +kernel
theorem dX0_freeze_17 : decode cX0_freeze 17 = .ok (.iload_n 3, 1) := by decide +kernel
theorem dX0_freeze_18 : decode cX0_freeze 18 = .ok (.putfield 34, 3) := by decide +kernel
theorem dX0_freeze_21 : decode cX0_freeze 21 = .ok (.return_, 1) := by decide +kernel
theorem dX0_thaw_0 : decode cX0_thaw 0 = .ok (.aload_n 0, 1) := by decide +kernel
theorem dX0_thaw_1 : decode cX0_thaw 1 = .ok (.iconst (-1), 1) := by decide +kernel
theorem dX0_thaw_2 : decode cX0_thaw 2 = .ok (.putfield 31, 3) := by decide +kernel
theorem dX0_thaw_5 : decode cX0_thaw 5 = .ok (.return_, 1) := by decide +kernel
theorem dX0_goesAheadOf_0 : decode cX0_goesAheadOf 0 = .ok (.aload_n 0, 1) := by decide +kernel
theorem dX0_goesAheadOf_1 : decode cX0_goesAheadOf 1 = .ok (.getfield 62, 3) := by decide +kernel
theorem dX0_goesAheadOf_4 : decode cX0_goesAheadOf 4 = .ok (.aload_n 1, 1) := by decide +kernel
theorem dX0_goesAheadOf_5 : decode cX0_goesAheadOf 5 = .ok (.getfield 62, 3) := by decide +kernel
theorem dX0_goesAheadOf_8 : decode cX0_goesAheadOf 8 = .ok (.if_icmp .lt 25, 3) := by decide +kernel
theorem dX0_goesAheadOf_11 : decode cX0_goesAheadOf 11 = .ok (.aload_n 0, 1) := by decide +kernel
theorem dX0_goesAheadOf_12 : decode cX0_goesAheadOf 12 = .ok (.getfield 62, 3) := by decide +kernel
theorem dX0_goesAheadOf_15 : decode cX0_goesAheadOf 15 = .ok (.aload_n 1, 1) := by decide +kernel
theorem dX0_goesAheadOf_16 : decode cX0_goesAheadOf 16 = .ok (.getfield 62, 3) := by decide +kernel
theorem dX0_goesAheadOf_19 : decode cX0_goesAheadOf 19 = .ok (.if_icmp .ne 18, 3) := by decide +kernel
theorem dX0_goesAheadOf_22 : decode cX0_goesAheadOf 22 = .ok (.aload_n 0, 1) := by decide +kernel
theorem dX0_goesAheadOf_23 : decode cX0_goesAheadOf 23 = .ok (.getfield 34, 3) := by decide +kernel
theorem dX0_goesAheadOf_26 : decode cX0_goesAheadOf 26 = .ok (.aload_n 1, 1) := by decide +kernel
theorem dX0_goesAheadOf_27 : decode cX0_goesAheadOf 27 = .ok (.getfield 34, 3) := by decide +kernel
theorem dX0_goesAheadOf_30 : decode cX0_goesAheadOf 30 = .ok (.if_icmp .ge 7, 3) := by decide +kernel
theorem dX0_goesAheadOf_33 : decode cX0_goesAheadOf 33 = .ok (.iconst 1, 1) := by decide +kernel
theorem dX0_goesAheadOf_34 : decode cX0_goesAheadOf 34 = .ok (.goto 4, 3) := by decide +kernel
theorem dX0_goesAheadOf_37 : decode cX0_goesAheadOf 37 = .ok (.iconst 0, 1) := by decide +kernel
theorem dX0_goesAheadOf_38 : decode cX0_goesAheadOf 38 = .ok (.ireturn, 1) := by decide +kernel
set_option maxRecDepth 20000 in
theorem ggX0_clearCode_X0_isPermanent : GoodIn wsX0_clearCode wsX0_isPermanent := goodIn_r _ [10, 11, 17, 18, 19, 20, 21, 22, 23, 24, 25, 26, 27, 28, 29, 30, 31, 32, 33, 34] (by decide +kernel) (by decide +kernel)
set_option maxRecDepth 20000 in
theorem gX0_clearCode_X0_isPermanent : GoodIn wsX0_clearCode (wsV RX0 95 RX0 yX0_isPermanent wsX0_isPermanent) := goodIn_app (goodIn_of _ (by decide +kernel)) ggX0_clearCode_X0_isPermanent
set_option maxRecDepth 20000 in
theorem ggX0_clearCode_X0_thaw : GoodIn wsX0_clearCode wsX0_thaw := goodIn_r _ [15, 16, 17, 18, 19, 20, 21, 22, 23, 24, 25, 26, 27, 28, 29, 30, 31, 32, 33, 34] (by decide +kernel) (by decide +kernel)
set_option maxRecDepth 20000 in
theorem gX0_clearCode_X0_thaw : GoodIn wsX0_clearCode (wsV RX0 86 RX0 yX0_thaw wsX0_thaw) := goodIn_app (goodIn_of _ (by decide +kernel)) ggX0_clearCode_X0_thaw
theorem dX0_clearCode_0 : decode cX0_clearCode 0 = .ok (.aload_n 0, 1) := by decide +kernel
theorem dX0_clearCode_1 : decode cX0_clearCode 1 = .ok (.iconst 0, 1) := by decide +kernel
theorem dX0_clearCode_2 : decode cX0_clearCode 2 = .ok (.putfield 15, 3) := by decide +kernel
theorem dX0_clearCode_5 : decode cX0_clearCode 5 = .ok (.aload_n 0, 1) := by decide +kernel
theorem dX0_clearCode_6 : decode cX0_clearCode 6 = .ok (.iconst 0, 1) := by decide +kernel
theorem dX0_clearCode_7 : decode cX0_clearCode 7 = .ok (.putfield 18, 3) := by decide +kernel
theorem dX0_clearCode_10 : decode cX0_clearCode 10 = .ok (.aload_n 0, 1) := by decide +kernel
theorem dX0_clearCode_11 : decode cX0_clearCode 11 = .ok (.iconst 0, 1) := by decide +kernel
theorem dX0_clearCode_12 : decode cX0_clearCode 12 = .ok (.putfield 21, 3) := by decide +kernel
theorem dX0_clearCode_15 : decode cX0_clearCode 15 = .ok (.aload_n 0, 1) := by decide +kernel
theorem dX0_clearCode_16 : decode cX0_clearCode 16 = .ok (.iconst 0, 1) := by decide +kernel
theorem dX0_clearCode_17 : decode cX0_clearCode 17 = .ok (.putfield 27, 3) := by decide +kernel
theorem dX0_clearCode_20 : decode cX0_clearCode 20 = .ok (.aload_n 0, 1) := by decide +kernel
theorem dX0_clearCode_21 : decode cX0_clearCode 21 = .ok (.invokevirtual 95, 3) := by decide +kernel
theorem dX0_clearCode_24 : decode cX0_clearCode 24 = .ok (.ifCond .eq 5, 3) := by decide +kernel
theorem dX0_clearCode_27 : decode cX0_clearCode 27 = .ok (.iconst 0, 1) := by decide +kernel
theorem dX0_clearCode_28 : decode cX0_clearCode 28 = .ok (.ireturn, 1) := by decide +kernel
theorem dX0_clearCode_29 : decode cX0_clearCode 29 = .ok (.aload_n 0, 1) := by decide +kernel
theorem dX0_clearCode_30 : decode cX0_clearCode 30 = .ok (.getfield 11, 3) := by decide +kernel
theorem dX0_clearCode_33 : decode cX0_clearCode 33 = .ok (.ifCond .eq 7, 3) := by decide +kernel
theorem dX0_clearCode_36 : decode cX0_clearCode 36 = .ok (.iconst 1, 1) := by decide +kernel
theorem dX0_clearCode_37 : decode cX0_clearCode 37 = .ok (.goto 4, 3) := by decide +kernel
theorem dX0_clearCode_40 : decode cX0_clearCode 40 = .ok (.iconst 0, 1) := by decide +kernel
theorem dX0_clearCode_41 : decode cX0_clearCode 41 = .ok (.istore_n 1, 1) := by decide +kernel
theorem dX0_clearCode_42 : decode cX0_clearCode 42 = .ok (.aload_n 0, 1) := by decide +kernel
theorem dX0_clearCode_43 : decode cX0_clearCode 43 = .ok (.iconst 0, 1) := by decide +kernel
theorem dX0_clearCode_44 : decode cX0_clearCode 44 = .ok (.putfield 11, 3) := by decide +kernel
theorem dX0_clearCode_47 : decode cX0_clearCode 47 = .ok (.aload_n 0, 1) := by decide +kernel
theorem dX0_clearCode_48 : decode cX0_clearCode 48 = .ok (.invokevirtual 86, 3) := by decide +kernel
theorem dX0_clearCode_51 : decode cX0_clearCode 51 = .ok (.iload_n 1, 1) := by decide +kernel
theorem dX0_clearCode_52 : decode cX0_clearCode 52 = .ok (.ireturn, 1) := by decide +kernel
theorem dX1_init_0 : decode cX1_init 0 = .ok (.aload_n 0, 1) := by decide +kernel
theorem dX1_init_1 : decode cX1_init 1 = .ok (.invokespecial 3, 3) := by decide +kernel
theorem dX1_init_4 : decode cX1_init 4 = .ok (.aload_n 0, 1) := by decide +kernel
theorem dX1_init_5 : decode cX1_init 5 = .ok (.bipush 10, 2) := by decide +kernel
theorem dX1_init_7 : decode cX1_init 7 = .ok (.newarray .int, 2) := by decide +kernel
theorem dX1_init_9 : decode cX1_init 9 = .ok (.putfield 11, 3) := by decide +kernel
theorem dX1_init_12 : decode cX1_init 12 = .ok (.aload_n 0, 1) := by decide +kernel
theorem dX1_init_13 : decode cX1_init 13 = .ok (.bipush 10, 2) := by decide +kernel
theorem dX1_init_15 : decode cX1_init 15 = .ok (.newarray .int, 2) := by decide +kernel
theorem dX1_init_17 : decode cX1_init 17 = .ok (.putfield 15, 3) := by decide +kernel
theorem dX1_init_20 : decode cX1_init 20 = .ok (.aload_n 0, 1) := by decide +kernel
theorem dX1_init_21 : decode cX1_init 21 = .ok (.iconst 0, 1) := by decide +kernel
theorem dX1_init_22 : decode cX1_init 22 = .ok (.putfield 18, 3) := by decide +kernel
theorem dX1_init_25 : decode cX1_init 25 = .ok (.aload_n 0, 1) := by decide +kernel
theorem dX1_init_26 : decode cX1_init 26 = .ok (.sipush 1024, 3) := by decide +kernel
theorem dX1_init_29 : decode cX1_init 29 = .ok (.newarray .int, 2) := by decide +kernel
theorem dX1_init_31 : decode cX1_init 31 = .ok (.putfield 22, 3) := by decide +kernel
theorem dX1_init_34 : decode cX1_init 34 = .ok (.aload_n 0, 1) := by decide +kernel
theorem dX1_init_35 : decode cX1_init 35 = .ok (.bipush 10, 2) := by decide +kernel
theorem dX1_init_37 : decode cX1_init 37 = .ok (.newarray .int, 2) := by decide +kernel
theorem dX1_init_39 : decode cX1_init 39 = .ok (.putfield 25, 3) := by decide +kernel
theorem dX1_init_42 : decode cX1_init 42 = .ok (.aload_n 0, 1) := by decide +kernel
theorem dX1_init_43 : decode cX1_init 43 = .ok (.iconst 0, 1) := by decide +kernel
theorem dX1_init_44 : decode cX1_init 44 = .ok (.putfield 28, 3) := by decide +kernel
theorem dX1_init_47 : decode cX1_init 47 = .ok (.aload_n 0, 1) := by decide +kernel
theorem dX1_init_48 : decode cX1_init 48 = .ok (.bipush 10, 2) := by decide +kernel
theorem dX1_init_50 : decode cX1_init 50 = .ok (.newarray .int, 2) := by decide +kernel
theorem dX1_init_52 : decode cX1_init 52 = .ok (.putfield 31, 3) := by decide +kernel
theorem dX1_init_55 : decode cX1_init 55 = .ok (.aload_n 0, 1) := by decide +kernel
theorem dX1_init_56 : decode cX1_init 56 = .ok (.sipush 1024, 3) := by decide +kernel
theorem dX1_init_59 : decode cX1_init 59 = .ok (.newarray .int, 2) := by decide +kernel
theorem dX1_init_61 : decode cX1_init 61 = .ok (.putfield 34, 3) := by decide +kernel
theorem dX1_init_64 : decode cX1_init 64 = .ok (.aload_n 0, 1) := by decide +kernel
theorem dX1_init_65 : decode cX1_init 65 = .ok (.iconst (-1), 1) := by decide +kernel
theorem dX1_init_66 : decode cX1_init 66 = .ok (.putfield 37, 3) := by decide +kernel
theorem dX1_init_69 : decode cX1_init 69 = .ok (.aload_n 0, 1) := by decide +kernel
theorem dX1_init_70 : decode cX1_init 70 = .ok (.iconst 0, 1) := by decide +kernel
theorem dX1_init_71 : decode cX1_init 71 = .ok (.putfield 40, 3) := by decide +kernel
theorem dX1_init_74 : decode cX1_init 74 = .ok (.aload_n 0, 1) := by decide +kernel
theorem dX1_init_75 : decode cX1_init 75 = .ok (.iconst 0, 1) := by decide +kernel
theorem dX1_init_76 : decode cX1_init 76 = .ok (.putfield 43, 3) := by decide +kernel
theorem dX1_init_79 : decode cX1_init 79 = .ok (.aload_n 0, 1) := by decide +kernel
theorem dX1_init_80 : decode cX1_init 80 = .ok (.iconst (-1), 1) := by decide +kernel
theorem dX1_init_81 : decode cX1_init 81 = .ok (.putfield 46, 3) := by decide +kernel
theorem dX1_init_84 : decode cX1_init 84 = .ok (.aload_n 0, 1) := by decide +kernel
theorem dX1_init_85 : decode cX1_init 85 = .ok (.iconst 0, 1) := by decide +kernel
theorem dX1_init_86 : decode cX1_init 86 = .ok (.putfield 49, 3) := by decide +kernel
theorem dX1_init_89 : decode cX1_init 89 = .ok (.return_, 1) := by decide +kernel
theorem dX1_addCause_0 : decode cX1_addCause 0 = .ok (.aload_n 0, 1) := by decide +kernel
theorem dX1_addCause_1 : decode cX1_addCause 1 = .ok (.getfield 18, 3) := by decide +kernel
theorem dX1_addCause_4 : decode cX1_addCause 4 = .ok (.bipush 10, 2) := by decide +kernel
theorem dX1_addCause_6 : decode cX1_addCause 6 = .ok (.if_icmp .lt 6, 3) := by decide +kernel
theorem dX1_addCause_9 : decode cX1_addCause 9 = .ok (.bipush (-4), 2) := by decide +kernel
theorem dX1_addCause_11 : decode cX1_addCause 11 = .ok (.ireturn, 1) := by decide +kernel
theorem dX1_addCause_12 : decode cX1_addCause 12 = .ok (.aload_n 0, 1) := by decide +kernel
theorem dX1_addCause_13 : decode cX1_addCause 13 = .ok (.getfield 11, 3) := by decide +kernel
theorem dX1_addCause_16 : decode cX1_addCause 16 = .ok (.aload_n 0, 1) := by decide +kernel
theorem dX1_addCause_17 : decode cX1_addCause 17 = .ok (.getfield 18, 3) := by decide +kernel
theorem dX1_addCause_20 : decode cX1_addCause 20 = .ok (.iload_n 1, 1) := by decide +kernel
theorem dX1_addCause_21 : decode cX1_addCause 21 = .ok (.iastore, 1) := by decide +kernel
theorem dX1_addCause_22 : decode cX1_addCause 22 = .ok (.aload_n 0, 1) := by decide +kernel
theorem dX1_addCause_23 : decode cX1_addCause 23 = .ok (.getfield 15, 3) := by decide +kernel
theorem dX1_addCause_26 : decode cX1_addCause 26 = .ok (.aload_n 0, 1) := by decide +kernel
theorem dX1_addCause_27 : decode cX1_addCause 27 = .ok (.getfield 18, 3) := by decide +kernel
theorem dX1_addCause_30 : decode cX1_addCause 30 = .ok (.iload_n 2, 1) := by decide +kernel
theorem dX1_addCause_31 : decode cX1_addCause 31 = .ok (.iastore, 1) := by decide +kernel
theorem dX1_addCause_32 : decode cX1_addCause 32 = .ok (.iconst 1, 1) := by decide +kernel
theorem dX1_addCause_33 : decode cX1_addCause 33 = .ok (.aload_n 0, 1) := by decide +kernel
theorem dX1_addCause_34 : decode cX1_addCause 34 = .ok (.getfield 18, 3) := by decide +kernel
theorem dX1_addCause_37 : decode cX1_addCause 37 = .ok (.ishl, 1) := by decide +kernel
theorem dX1_addCause_38 : decode cX1_addCause 38 = .ok (.istore_n 3, 1) := by decide +kernel
theorem dX1_addCause_39 : decode cX1_addCause 39 = .ok (.iconst 0, 1) := by decide +kernel
theorem dX1_addCause_40 : decode cX1_addCause 40 = .ok (.istore 4, 2) := by decide +kernel
theorem dX1_addCause_42 : decode cX1_addCause 42 = .ok (.iload 4, 2) := by decide +kernel
theorem dX1_addCause_44 : decode cX1_addCause 44 = .ok (.iload_n 3, 1) := by decide +kernel
theorem dX1_addCause_45 : decode cX1_addCause 45 = .ok (.if_icmp .ge 27, 3) := by decide +kernel
theorem dX1_addCause_48 : decode cX1_addCause 48 = .ok (.aload_n 0, 1) := by decide +kernel
theorem dX1_addCause_49 : decode cX1_addCause 49 = .ok (.getfield 22, 3) := by decide +kernel
theorem dX1_addCause_52 : decode cX1_addCause 52 = .ok (.iload 4, 2) := by decide +kernel
theorem dX1_addCause_54 : decode cX1_addCause 54 = .ok (.iload_n 3, 1) := by decide +kernel
theorem dX1_addCause_55 : decode cX1_addCause 55 = .ok (.iadd, 1) := by decide +kernel
theorem dX1_addCause_56 : decode cX1_addCause 56 = .ok (.aload_n 0, 1) := by decide +kernel
theorem dX1_addCause_57 : decode cX1_addCause 57 = .ok (.getfield 22, 3) := by decide +kernel
theorem dX1_addCause_60 : decode cX1_addCause 60 = .ok (.iload 4, 2) := by decide +kernel
theorem dX1_addCause_62 : decode cX1_addCause 62 = .ok (.iaload, 1) := by decide +kernel
theorem dX1_addCause_63 : decode cX1_addCause 63 = .ok (.iload_n 1, 1) := by decide +kernel
theorem dX1_addCause_64 : decode cX1_addCause 64 = .ok (.ior, 1) := by decide +kernel
theorem dX1_addCause_65 : decode cX1_addCause 65 = .ok (.iastore, 1) := by decide +kernel
theorem dX1_addCause_66 : decode cX1_addCause 66 = .ok (.iinc 4 1, 3) := by decide +kernel
theorem dX1_addCause_69 : decode cX1_addCause 69 = .ok (.goto (-27), 3) := by decide +kernel
theorem dX1_addCause_72 : decode cX1_addCause 72 = .ok (.aload_n 0, 1) := by decide +kernel
theorem dX1_addCause_73 : decode cX1_addCause 73 = .ok (.dup, 1) := by decide +kernel
theorem dX1_addCause_74 : decode cX1_addCause 74 = .ok (.getfield 18, 3) := by decide +kernel
theorem dX1_addCause_77 : decode cX1_addCause 77 = .ok (.iconst 1, 1) := by decide +kernel
theorem dX1_addCause_78 : decode cX1_addCause 78 = .ok (.iadd, 1) := by decide +kernel
theorem dX1_addCause_79 : decode cX1_addCause 79 = .ok (.putfield 18, 3) := by decide +kernel
theorem dX1_addCause_82 : decode cX1_addCause 82 = .ok (.aload_n 0, 1) := by decide +kernel
theorem dX1_addCause_83 : decode cX1_addCause 83 = .ok (.getfield 18, 3) := by decide +kernel
theorem dX1_addCause_86 : decode cX1_addCause 86 = .ok (.iconst 1, 1) := by decide +kernel
theorem dX1_addCause_87 : decode cX1_addCause 87 = .ok (.isub, 1) := by decide +kernel
theorem dX1_addCause_88 : decode cX1_addCause 88 = .ok (.ireturn, 1) := by decide +kernel
theorem dX1_isExplainedBy_0 : decode cX1_isExplainedBy 0 = .ok (.aload_n 0, 1) := by decide +kernel
theorem dX1_isExplainedBy_1 : decode cX1_isExplainedBy 1 = .ok (.getfield 22, 3) := by decide +kernel
theorem dX1_isExplainedBy_4 : decode cX1_isExplainedBy 4 = .ok (.iload_n 1, 1) := by decide +kernel
theorem dX1_isExplainedBy_5 : decode cX1_isExplainedBy 5 = .ok (.iaload, 1) := by decide +kernel
theorem dX1_isExplainedBy_6 : decode cX1_isExplainedBy 6 = .ok (.iload_n 2, 1) := by decide +kernel
theorem dX1_isExplainedBy_7 : decode cX1_isExplainedBy 7 = .ok (.iand, 1) := by decide +kernel
theorem dX1_isExplainedBy_8 : decode cX1_isExplainedBy 8 = .ok (.iload_n 3, 1) := by decide +kernel
theorem dX1_isExplainedBy_9 : decode cX1_isExplainedBy 9 = .ok (.iload_n 2, 1) := by decide +kernel
theorem dX1_isExplainedBy_10 : decode cX1_isExplainedBy 10 = .ok (.iand, 1) := by decide +kernel
theorem dX1_isExplainedBy_11 : decode cX1_isExplainedBy 11 = .ok (.if_icmp .ne 7, 3) := by decide +kernel
theorem dX1_isExplainedBy_14 : decode cX1_isExplainedBy 14 = .ok (.iconst 1, 1) := by decide +kernel
theorem dX1_isExplainedBy_15 : decode cX1_isExplainedBy 15 = .ok (.goto 4, 3) := by decide +kernel
theorem dX1_isExplainedBy_18 : decode cX1_isExplainedBy 18 = .ok (.iconst 0, 1) := by decide +kernel
theorem dX1_isExplainedBy_19 : decode cX1_isExplainedBy 19 = .ok (.ireturn, 1) := by decide +kernel
set_option maxRecDepth 20000 in
theorem ggX1_look_X1_findLeast : GoodIn wsX1_look wsX1_findLeast := goodIn_r _ [10, 11, 3, 1, 2, 12, 13, 14, 15, 16, 17, 18, 19, 20, 21, 22, 9, 23, 24, 25, 26, 27, 28, 29, 30, 31, 32, 33, 34, 35, 36, 37] (by decide +kernel) (by decide +kernel)
set_option maxRecDepth 20000 in
theorem gX1_look_X1_findLeast : GoodIn wsX1_look (wsV RX1 53 RX1 yX1_findLeast wsX1_findLeast) := goodIn_app (goodIn_of _ (by decide +kernel)) ggX1_look_X1_findLeast
theorem dX1_look_0 : decode cX1_look 0 = .ok (.iload_n 1, 1) := by decide +kernel
theorem dX1_look_1 : decode cX1_look 1 = .ok (.aload_n 0, 1) := by decide +kernel
theorem dX1_look_2 : decode cX1_look 2 = .ok (.getfield 40, 3) := by decide +kernel
theorem dX1_look_5 : decode cX1_look 5 = .ok (.if_icmp .ne 23, 3) := by decide +kernel
theorem dX1_look_8 : decode cX1_look 8 = .ok (.iload_n 2, 1) := by decide +kernel
theorem dX1_look_9 : decode cX1_look 9 = .ok (.aload_n 0, 1) := by decide +kernel
theorem dX1_look_10 : decode cX1_look 10 = .ok (.getfield 43, 3) := by decide +kernel
theorem dX1_look_13 : decode cX1_look 13 = .ok (.if_icmp .ne 15, 3) := by decide +kernel
theorem dX1_look_16 : decode cX1_look 16 = .ok (.aload_n 0, 1) := by decide +kernel
theorem dX1_look_17 : decode cX1_look 17 = .ok (.getfield 18, 3) := by decide +kernel
theorem dX1_look_20 : decode cX1_look 20 = .ok (.aload_n 0, 1) := by decide +kernel
theorem dX1_look_21 : decode cX1_look 21 = .ok (.getfield 46, 3) := by decide +kernel
theorem dX1_look_24 : decode cX1_look 24 = .ok (.if_icmp .ne 4, 3) := by decide +kernel
theorem dX1_look_27 : decode cX1_look 27 = .ok (.return_, 1) := by decide +kernel
theorem dX1_look_28 : decode cX1_look 28 = .ok (.aload_n 0, 1) := by decide +kernel
theorem dX1_look_29 : decode cX1_look 29 = .ok (.iload_n 1, 1) := by decide +kernel
theorem dX1_look_30 : decode cX1_look 30 = .ok (.putfield 40, 3) := by decide +kernel
theorem dX1_look_33 : decode cX1_look 33 = .ok (.aload_n 0, 1) := by decide +kernel
theorem dX1_look_34 : decode cX1_look 34 = .ok (.iload_n 2, 1) := by decide +kernel
theorem dX1_look_35 : decode cX1_look 35 = .ok (.putfield 43, 3) := by decide +kernel
theorem dX1_look_38 : decode cX1_look 38 = .ok (.aload_n 0, 1) := by decide +kernel
theorem dX1_look_39 : decode cX1_look 39 = .ok (.aload_n 0, 1) := by decide +kernel
theorem dX1_look_40 : decode cX1_look 40 = .ok (.getfield 18, 3) := by decide +kernel
theorem dX1_look_43 : decode cX1_look 43 = .ok (.putfield 46, 3) := by decide +kernel
theorem dX1_look_46 : decode cX1_look 46 = .ok (.aload_n 0, 1) := by decide +kernel
theorem dX1_look_47 : decode cX1_look 47 = .ok (.iconst 0, 1) := by decide +kernel
theorem dX1_look_48 : decode cX1_look 48 = .ok (.putfield 49, 3) := by decide +kernel
theorem dX1_look_51 : decode cX1_look 51 = .ok (.aload_n 0, 1) := by decide +kernel
theorem dX1_look_52 : decode cX1_look 52 = .ok (.invokevirtual 53, 3) := by decide +kernel
theorem dX1_look_55 : decode cX1_look 55 = .ok (.return_, 1) := by decide +kernel
set_option maxRecDepth 20000 in
theorem ggX1_findLeast_J6_bitCount_0f7a4 : GoodIn wsX1_findLeast wsJ6_bitCount_0f7a4 := goodIn_r _ [9, 10, 11, 12] (by decide +kernel) (by decide +kernel)
set_option maxRecDepth 20000 in
theorem gX1_findLeast_J6_bitCount_0f7a4 : GoodIn wsX1_findLeast (va_wsS RX1 56 yJ6_bitCount_0f7a4 wsJ6_bitCount_0f7a4) := goodIn_app (goodIn_of _ (by decide +kernel)) ggX1_findLeast_J6_bitCount_0f7a4
set_option maxRecDepth 20000 in
theorem ggX1_findLeast_X1_isExplainedBy : GoodIn wsX1_findLeast wsX1_isExplainedBy := goodIn_r _ [17, 18, 19, 20, 21, 22, 23, 24, 25, 26, 27, 28, 29, 30, 31] (by decide +kernel) (by decide +kernel)
set_option maxRecDepth 20000 in
theorem gX1_findLeast_X1_isExplainedBy : GoodIn wsX1_findLeast (wsV RX1 62 RX1 yX1_isExplainedBy wsX1_isExplainedBy) := goodIn_app (goodIn_of _ (by decide +kernel)) ggX1_findLeast_X1_isExplainedBy
theorem dX1_findLeast_0 : decode cX1_findLeast 0 = .ok (.aload_n 0, 1) := by decide +kernel
theorem dX1_findLeast_1 : decode cX1_findLeast 1 = .ok (.iconst 0, 1) := by decide +kernel
theorem dX1_findLeast_2 : decode cX1_findLeast 2 = .ok (.putfield 28, 3) := by decide +kernel
theorem dX1_findLeast_5 : decode cX1_findLeast 5 = .ok (.bipush 10, 2) := by decide +kernel
theorem dX1_findLeast_7 : decode cX1_findLeast 7 = .ok (.istore_n 1, 1) := by decide +kernel
theorem dX1_findLeast_8 : decode cX1_findLeast 8 = .ok (.iconst 0, 1) := by decide +kernel
theorem dX1_findLeast_9 : decode cX1_findLeast 9 = .ok (.istore_n 2, 1) := by decide +kernel
theorem dX1_findLeast_10 : decode cX1_findLeast 10 = .ok (.iload_n 2, 1) := by decide +kernel
theorem dX1_findLeast_11 : decode cX1_findLeast 11 = .ok (.iconst 1, 1) := by decide +kernel
theorem dX1_findLeast_12 : decode cX1_findLeast 12 = .ok (.aload_n 0, 1) := by decide +kernel
theorem dX1_findLeast_13 : decode cX1_findLeast 13 = .ok (.getfield 18, 3) := by decide +kernel
theorem dX1_findLeast_16 : decode cX1_findLeast 16 = .ok (.ishl, 1) := by decide +kernel
theorem dX1_findLeast_17 : decode cX1_findLeast 17 = .ok (.if_icmp .ge 79, 3) := by decide +kernel
theorem dX1_findLeast_20 : decode cX1_findLeast 20 = .ok (.iload_n 2, 1) := by decide +kernel
theorem dX1_findLeast_21 : decode cX1_findLeast 21 = .ok (.invokestatic 56, 3) := by decide +kernel
theorem dX1_findLeast_24 : decode cX1_findLeast 24 = .ok (.istore_n 3, 1) := by decide +kernel
theorem dX1_findLeast_25 : decode cX1_findLeast 25 = .ok (.iload_n 3, 1) := by decide +kernel
theorem dX1_findLeast_26 : decode cX1_findLeast 26 = .ok (.iload_n 1, 1) := by decide +kernel
theorem dX1_findLeast_27 : decode cX1_findLeast 27 = .ok (.if_icmp .gt 63, 3) := by decide +kernel
theorem dX1_findLeast_30 : decode cX1_findLeast 30 = .ok (.aload_n 0, 1) := by decide +kernel
theorem dX1_findLeast_31 : decode cX1_findLeast 31 = .ok (.iload_n 2, 1) := by decide +kernel
theorem dX1_findLeast_32 : decode cX1_findLeast 32 = .ok (.aload_n 0, 1) := by decide +kernel
theorem dX1_findLeast_33 : decode cX1_findLeast 33 = .ok (.getfield 40, 3) := by decide +kernel
theorem dX1_findLeast_36 : decode cX1_findLeast 36 = .ok (.aload_n 0, 1) := by decide +kernel
theorem dX1_findLeast_37 : decode cX1_findLeast 37 = .ok (.getfield 43, 3) := by decide +kernel
theorem dX1_findLeast_40 : decode cX1_findLeast 40 = .ok (.invokevirtual 62, 3) := by decide +kernel
theorem dX1_findLeast_43 : decode cX1_findLeast 43 = .ok (.ifCond .ne 6, 3) := by decide +kernel
theorem dX1_findLeast_46 : decode cX1_findLeast 46 = .ok (.goto 44, 3) := by decide +kernel
theorem dX1_findLeast_49 : decode cX1_findLeast 49 = .ok (.iload_n 3, 1) := by decide +kernel
theorem dX1_findLeast_50 : decode cX1_findLeast 50 = .ok (.iload_n 1, 1) := by decide +kernel
theorem dX1_findLeast_51 : decode cX1_findLeast 51 = .ok (.if_icmp .ge 8, 3) := by decide +kernel
theorem dX1_findLeast_54 : decode cX1_findLeast 54 = .ok (.aload_n 0, 1) := by decide +kernel
theorem dX1_findLeast_55 : decode cX1_findLeast 55 = .ok (.iconst 0, 1) := by decide +kernel
theorem dX1_findLeast_56 : decode cX1_findLeast 56 = .ok (.putfield 28, 3) := by decide +kernel
theorem dX1_findLeast_59 : decode cX1_findLeast 59 = .ok (.iload_n 3, 1) := by decide +kernel
theorem dX1_findLeast_60 : decode cX1_findLeast 60 = .ok (.istore_n 1, 1) := by decide +kernel
theorem dX1_findLeast_61 : decode cX1_findLeast 61 = .ok (.aload_n 0, 1) := by decide +kernel
theorem dX1_findLeast_62 : decode cX1_findLeast 62 = .ok (.getfield 28, 3) := by decide +kernel
theorem dX1_findLeast_65 : decode cX1_findLeast 65 = .ok (.bipush 10, 2) := by decide +kernel
theorem dX1_findLeast_67 : decode cX1_findLeast 67 = .ok (.if_icmp .ge 23, 3) := by decide +kernel
theorem dX1_findLeast_70 : decode cX1_findLeast 70 = .ok (.aload_n 0, 1) := by decide +kernel
theorem dX1_findLeast_71 : decode cX1_findLeast 71 = .ok (.getfield 25, 3) := by decide +kernel
theorem dX1_findLeast_74 : decode cX1_findLeast 74 = .ok (.aload_n 0, 1) := by decide +kernel
theorem dX1_findLeast_75 : decode cX1_findLeast 75 = .ok (.getfield 28, 3) := by decide +kernel
theorem dX1_findLeast_78 : decode cX1_findLeast 78 = .ok (.iload_n 2, 1) := by decide +kernel
theorem dX1_findLeast_79 : decode cX1_findLeast 79 = .ok (.iastore, 1) := by decide +kernel
theorem dX1_findLeast_80 : decode cX1_findLeast 80 = .ok (.aload_n 0, 1) := by decide +kernel
theorem dX1_findLeast_81 : decode cX1_findLeast 81 = .ok (.dup, 1) := by decide +kernel
theorem dX1_findLeast_82 : decode cX1_findLeast 82 = .ok (.getfield 28, 3) := by decide +kernel
theorem dX1_findLeast_85 : decode cX1_findLeast 85 = .ok (.iconst 1, 1) := by decide +kernel
theorem dX1_findLeast_86 : decode cX1_findLeast 86 = .ok (.iadd, 1) := by decide +kernel
theorem dX1_findLeast_87 : decode cX1_findLeast 87 = .ok (.putfield 28, 3) := by decide +kernel
theorem dX1_findLeast_90 : decode cX1_findLeast 90 = .ok (.iinc 2 1, 3) := by decide +kernel
theorem dX1_findLeast_93 : decode cX1_findLeast 93 = .ok (.goto (-83), 3) := by decide +kernel
theorem dX1_findLeast_96 : decode cX1_findLeast 96 = .ok (.return_, 1) := by decide +kernel
set_option maxRecDepth 20000 in
theorem ggX1_planSum_X1_makePlan : GoodIn wsX1_planSum wsX1_makePlan := goodIn_r _ [7, 8, 9, 10, 11, 12, 13, 6, 14, 1, 15, 16, 17, 18, 19, 20, 21, 22, 23, 24, 25, 2, 26, 27, 28, 29, 30, 31, 32, 33, 34, 35, 36, 37, 38, 39, 40, 41, 42, 43, 44, 45] (by decide +kernel) (by decide +kernel)
set_option maxRecDepth 20000 in
theorem gX1_planSum_X1_makePlan : GoodIn wsX1_planSum (wsV RX1 66 RX1 yX1_makePlan wsX1_makePlan) := goodIn_app (goodIn_of _ (by decide +kernel)) ggX1_planSum_X1_makePlan
set_option maxRecDepth 20000 in
theorem ggX1_planSum_X1_allLeast : GoodIn wsX1_planSum wsX1_allLeast := goodIn_r _ [19, 1, 33, 34, 35, 36, 37, 38, 39, 40, 41, 42, 43, 44, 45] (by decide +kernel) (by decide +kernel)
set_option maxRecDepth 20000 in
theorem gX1_planSum_X1_allLeast : GoodIn wsX1_planSum (wsV RX1 69 RX1 yX1_allLeast wsX1_allLeast) := goodIn_app (goodIn_of _ (by decide +kernel)) ggX1_planSum_X1_allLeast
theorem dX1_planSum_0 : decode cX1_planSum 0 = .ok (.aload_n 0, 1) := by decide +kernel
theorem dX1_planSum_1 : decode cX1_planSum 1 = .ok (.getfield 28, 3) := by decide +kernel
theorem dX1_planSum_4 : decode cX1_planSum 4 = .ok (.ifCond .ne 5, 3) := by decide +kernel
theorem dX1_planSum_7 : decode cX1_planSum 7 = .ok (.iconst (-1), 1) := by decide +kernel
theorem dX1_planSum_8 : decode cX1_planSum 8 = .ok (.ireturn, 1) := by decide +kernel
theorem dX1_planSum_9 : decode cX1_planSum 9 = .ok (.aload_n 0, 1) := by decide +kernel
theorem dX1_planSum_10 : decode cX1_planSum 10 = .ok (.invokevirtual 66, 3) := by decide +kernel
theorem dX1_planSum_13 : decode cX1_planSum 13 = .ok (.aload_n 0, 1) := by decide +kernel
theorem dX1_planSum_14 : decode cX1_planSum 14 = .ok (.getfield 34, 3) := by decide +kernel
theorem dX1_planSum_17 : decode cX1_planSum 17 = .ok (.aload_n 0, 1) := by decide +kernel
theorem dX1_planSum_18 : decode cX1_planSum 18 = .ok (.invokevirtual 69, 3) := by decide +kernel
theorem dX1_planSum_21 : decode cX1_planSum 21 = .ok (.iaload, 1) := by decide +kernel
theorem dX1_planSum_22 : decode cX1_planSum 22 = .ok (.ireturn, 1) := by decide +kernel
set_option maxRecDepth 20000 in
theorem ggX1_planTest_X1_makePlan : GoodIn wsX1_planTest wsX1_makePlan := goodIn_r _ [7, 8, 9, 10, 11, 12, 13, 6, 14, 1, 15, 16, 17, 18, 19, 20, 21, 22, 23, 2, 24, 25, 26, 27, 28, 29, 30, 31, 32, 33, 34, 35, 36, 37, 38, 39, 40, 41, 42, 43, 44, 45] (by decide +kernel) (by decide +kernel)
set_option maxRecDepth 20000 in
theorem gX1_planTest_X1_makePlan : GoodIn wsX1_planTest (wsV RX1 66 RX1 yX1_makePlan wsX1_makePlan) := goodIn_app (goodIn_of _ (by decide +kernel)) ggX1_planTest_X1_makePlan
theorem dX1_planTest_0 : decode cX1_planTest 0 = .ok (.aload_n 0, 1) := by decide +kernel
theorem dX1_planTest_1 : decode cX1_planTest 1 = .ok (.getfield 28, 3) := by decide +kernel
theorem dX1_planTest_4 : decode cX1_planTest 4 = .ok (.ifCond .ne 5, 3) := by decide +kernel
theorem dX1_planTest_7 : decode cX1_planTest 7 = .ok (.iconst (-1), 1) := by decide +kernel
theorem dX1_planTest_8 : decode cX1_planTest 8 = .ok (.ireturn, 1) := by decide +kernel
theorem dX1_planTest_9 : decode cX1_planTest 9 = .ok (.aload_n 0, 1) := by decide +kernel
theorem dX1_planTest_10 : decode cX1_planTest 10 = .ok (.invokevirtual 66, 3) := by decide +kernel
theorem dX1_planTest_13 : decode cX1_planTest 13 = .ok (.aload_n 0, 1) := by decide +kernel
theorem dX1_planTest_14 : decode cX1_planTest 14 = .ok (.getfield 37, 3) := by decide +kernel
theorem dX1_planTest_17 : decode cX1_planTest 17 = .ok (.ireturn, 1) := by decide +kernel
theorem dX1_allLeast_0 : decode cX1_allLeast 0 = .ok (.iconst 1, 1) := by decide +kernel
theorem dX1_allLeast_1 : decode cX1_allLeast 1 = .ok (.aload_n 0, 1) := by decide +kernel
theorem dX1_allLeast_2 : decode cX1_allLeast 2 = .ok (.getfield 28, 3) := by decide +kernel
theorem dX1_allLeast_5 : decode cX1_allLeast 5 = .ok (.ishl, 1) := by decide +kernel
theorem dX1_allLeast_6 : decode cX1_allLeast 6 = .ok (.iconst 1, 1) := by decide +kernel
theorem dX1_allLeast_7 : decode cX1_allLeast 7 = .ok (.isub, 1) := by decide +kernel
theorem dX1_allLeast_8 : decode cX1_allLeast 8 = .ok (.ireturn, 1) := by decide +kernel
set_option maxRecDepth 20000 in
theorem ggX1_makePlan_X1_holdersOf : GoodIn wsX1_makePlan wsX1_holdersOf := goodIn_r _ [8, 9, 10, 29, 30, 31, 32, 33, 34, 35, 36, 37, 38, 39, 40, 41] (by decide +kernel) (by decide +kernel)
set_option maxRecDepth 20000 in
theorem gX1_makePlan_X1_holdersOf : GoodIn wsX1_makePlan (wsV RX1 73 RX1 yX1_holdersOf wsX1_holdersOf) := goodIn_app (goodIn_of _ (by decide +kernel)) ggX1_makePlan_X1_holdersOf
set_option maxRecDepth 20000 in
theorem ggX1_makePlan_X1_allLeast : GoodIn wsX1_makePlan wsX1_allLeast := goodIn_r _ [14, 9, 29, 30, 31, 32, 33, 34, 35, 36, 37, 38, 39, 40, 41] (by decide +kernel) (by decide +kernel)
set_option maxRecDepth 20000 in
theorem gX1_makePlan_X1_allLeast : GoodIn wsX1_makePlan (wsV RX1 69 RX1 yX1_allLeast wsX1_allLeast) := goodIn_app (goodIn_of _ (by decide +kernel)) ggX1_makePlan_X1_allLeast
set_option maxRecDepth 20000 in
theorem ggX1_makePlan_X1_planFor : GoodIn wsX1_makePlan wsX1_planFor := goodIn_r _ [18, 19, 2, 3, 20, 21, 22, 23, 24, 25, 26, 27, 28, 29, 30, 31, 32, 33, 34, 35, 36, 37, 38, 39, 40, 41] (by decide +kernel) (by decide +kernel)
set_option maxRecDepth 20000 in
theorem gX1_makePlan_X1_planFor : GoodIn wsX1_makePlan (wsV RX1 76 RX1 yX1_planFor wsX1_planFor) := goodIn_app (goodIn_of _ (by decide +kernel)) ggX1_makePlan_X1_planFor
theorem dX1_makePlan_0 : decode cX1_makePlan 0 = .ok (.aload_n 0, 1) := by decide +kernel
theorem dX1_makePlan_1 : decode cX1_makePlan 1 = .ok (.getfield 49, 3) := by decide +kernel
theorem dX1_makePlan_4 : decode cX1_makePlan 4 = .ok (.ifCond .eq 4, 3) := by decide +kernel
theorem dX1_makePlan_7 : decode cX1_makePlan 7 = .ok (.return_, 1) := by decide +kernel
theorem dX1_makePlan_8 : decode cX1_makePlan 8 = .ok (.aload_n 0, 1) := by decide +kernel
theorem dX1_makePlan_9 : decode cX1_makePlan 9 = .ok (.iconst 1, 1) := by decide +kernel
theorem dX1_makePlan_10 : decode cX1_makePlan 10 = .ok (.putfield 49, 3) := by decide +kernel
theorem dX1_makePlan_13 : decode cX1_makePlan 13 = .ok (.iconst 0, 1) := by decide +kernel
theorem dX1_makePlan_14 : decode cX1_makePlan 14 = .ok (.istore_n 1, 1) := by decide +kernel
theorem dX1_makePlan_15 : decode cX1_makePlan 15 = .ok (.iload_n 1, 1) := by decide +kernel
theorem dX1_makePlan_16 : decode cX1_makePlan 16 = .ok (.aload_n 0, 1) := by decide +kernel
theorem dX1_makePlan_17 : decode cX1_makePlan 17 = .ok (.getfield 18, 3) := by decide +kernel
theorem dX1_makePlan_20 : decode cX1_makePlan 20 = .ok (.if_icmp .ge 20, 3) := by decide +kernel
theorem dX1_makePlan_23 : decode cX1_makePlan 23 = .ok (.aload_n 0, 1) := by decide +kernel
theorem dX1_makePlan_24 : decode cX1_makePlan 24 = .ok (.getfield 31, 3) := by decide +kernel
theorem dX1_makePlan_27 : decode cX1_makePlan 27 = .ok (.iload_n 1, 1) := by decide +kernel
theorem dX1_makePlan_28 : decode cX1_makePlan 28 = .ok (.aload_n 0, 1) := by decide +kernel
theorem dX1_makePlan_29 : decode cX1_makePlan 29 = .ok (.iload_n 1, 1) := by decide +kernel
theorem dX1_makePlan_30 : decode cX1_makePlan 30 = .ok (.invokevirtual 73, 3) := by decide +kernel
theorem dX1_makePlan_33 : decode cX1_makePlan 33 = .ok (.iastore, 1) := by decide +kernel
theorem dX1_makePlan_34 : decode cX1_makePlan 34 = .ok (.iinc 1 1, 3) := by decide +kernel
theorem dX1_makePlan_37 : decode cX1_makePlan 37 = .ok (.goto (-22), 3) := by decide +kernel
theorem dX1_makePlan_40 : decode cX1_makePlan 40 = .ok (.iconst 1, 1) := by decide +kernel
theorem dX1_makePlan_41 : decode cX1_makePlan 41 = .ok (.istore_n 1, 1) := by decide +kernel
theorem dX1_makePlan_42 : decode cX1_makePlan 42 = .ok (.iload_n 1, 1) := by decide +kernel
theorem dX1_makePlan_43 : decode cX1_makePlan 43 = .ok (.aload_n 0, 1) := by decide +kernel
theorem dX1_makePlan_44 : decode cX1_makePlan 44 = .ok (.invokevirtual 69, 3) := by decide +kernel
theorem dX1_makePlan_47 : decode cX1_makePlan 47 = .ok (.if_icmp .gt 14, 3) := by decide +kernel
theorem dX1_makePlan_50 : decode cX1_makePlan 50 = .ok (.aload_n 0, 1) := by decide +kernel
theorem dX1_makePlan_51 : decode cX1_makePlan 51 = .ok (.iload_n 1, 1) := by decide +kernel
theorem dX1_makePlan_52 : decode cX1_makePlan 52 = .ok (.invokevirtual 76, 3) := by decide +kernel
theorem dX1_makePlan_55 : decode cX1_makePlan 55 = .ok (.iinc 1 1, 3) := by decide +kernel
theorem dX1_makePlan_58 : decode cX1_makePlan 58 = .ok (.goto (-16), 3) := by decide +kernel
theorem dX1_makePlan_61 : decode cX1_makePlan 61 = .ok (.return_, 1) := by decide +kernel
theorem dX1_holdersOf_0 : decode cX1_holdersOf 0 = .ok (.iconst 0, 1) := by decide +kernel
theorem dX1_holdersOf_1 : decode cX1_holdersOf 1 = .ok (.istore_n 2, 1) := by decide +kernel
theorem dX1_holdersOf_2 : decode cX1_holdersOf 2 = .ok (.iconst 0, 1) := by decide +kernel
theorem dX1_holdersOf_3 : decode cX1_holdersOf 3 = .ok (.istore_n 3, 1) := by decide +kernel
theorem dX1_holdersOf_4 : decode cX1_holdersOf 4 = .ok (.iload_n 3, 1) := by decide +kernel
theorem dX1_holdersOf_5 : decode cX1_holdersOf 5 = .ok (.aload_n 0, 1) := by decide +kernel
theorem dX1_holdersOf_6 : decode cX1_holdersOf 6 = .ok (.getfield 28, 3) := by decide +kernel
theorem dX1_holdersOf_9 : decode cX1_holdersOf 9 = .ok (.if_icmp .ge 24, 3) := by decide +kernel
theorem dX1_holdersOf_12 : decode cX1_holdersOf 12 = .ok (.iload_n 2, 1) := by decide +kernel
theorem dX1_holdersOf_13 : decode cX1_holdersOf 13 = .ok (.aload_n 0, 1) := by decide +kernel
theorem dX1_holdersOf_14 : decode cX1_holdersOf 14 = .ok (.getfield 25, 3) := by decide +kernel
theorem dX1_holdersOf_17 : decode cX1_holdersOf 17 = .ok (.iload_n 3, 1) := by decide +kernel
theorem dX1_holdersOf_18 : decode cX1_holdersOf 18 = .ok (.iaload, 1) := by decide +kernel
theorem dX1_holdersOf_19 : decode cX1_holdersOf 19 = .ok (.iload_n 1, 1) := by decide +kernel
theorem dX1_holdersOf_20 : decode cX1_holdersOf 20 = .ok (.ishr, 1) := by decide +kernel
theorem dX1_holdersOf_21 : decode cX1_holdersOf 21 = .ok (.iconst 1, 1) := by decide +kernel
theorem dX1_holdersOf_22 : decode cX1_holdersOf 22 = .ok (.iand, 1) := by decide +kernel
theorem dX1_holdersOf_23 : decode cX1_holdersOf 23 = .ok (.iload_n 3, 1) := by decide +kernel
theorem dX1_holdersOf_24 : decode cX1_holdersOf 24 = .ok (.ishl, 1) := by decide +kernel
theorem dX1_holdersOf_25 : decode cX1_holdersOf 25 = .ok (.ior, 1) := by decide +kernel
theorem dX1_holdersOf_26 : decode cX1_holdersOf 26 = .ok (.istore_n 2, 1) := by decide +kernel
theorem dX1_holdersOf_27 : decode cX1_holdersOf 27 = .ok (.iinc 3 1, 3) := by decide +kernel
theorem dX1_holdersOf_30 : decode cX1_holdersOf 30 = .ok (.goto (-26), 3) := by decide +kernel
theorem dX1_holdersOf_33 : decode cX1_holdersOf 33 = .ok (.iload_n 2, 1) := by decide +kernel
theorem dX1_holdersOf_34 : decode cX1_holdersOf 34 = .ok (.ireturn, 1) := by decide +kernel
set_option maxRecDepth 20000 in
theorem ggX1_planFor_J6_bitCount_0f7a4 : GoodIn wsX1_planFor wsJ6_bitCount_0f7a4 := goodIn_r _ [9, 10, 11, 12] (by decide +kernel) (by decide +kernel)
set_option maxRecDepth 20000 in
theorem gX1_planFor_J6_bitCount_0f7a4 : GoodIn wsX1_planFor (va_wsS RX1 56 yJ6_bitCount_0f7a4 wsJ6_bitCount_0f7a4) := goodIn_app (goodIn_of _ (by decide +kernel)) ggX1_planFor_J6_bitCount_0f7a4
theorem dX1_planFor_0 : decode cX1_planFor 0 = .ok (.aload_n 0, 1) := by decide +kernel
theorem dX1_planFor_1 : decode cX1_planFor 1 = .ok (.iconst (-1), 1) := by decide +kernel
theorem dX1_planFor_2 : decode cX1_planFor 2 = .ok (.putfield 37, 3) := by decide +kernel
theorem dX1_planFor_5 : decode cX1_planFor 5 = .ok (.iconst 0, 1) := by decide +kernel
theorem dX1_planFor_6 : decode cX1_planFor 6 = .ok (.istore_n 2, 1) := by decide +kernel
theorem dX1_planFor_7 : decode cX1_planFor 7 = .ok (.iconst 0, 1) := by decide +kernel
theorem dX1_planFor_8 : decode cX1_planFor 8 = .ok (.istore_n 3, 1) := by decide +kernel
theorem dX1_planFor_9 : decode cX1_planFor 9 = .ok (.iload_n 3, 1) := by decide +kernel
theorem dX1_planFor_10 : decode cX1_planFor 10 = .ok (.aload_n 0, 1) := by decide +kernel
theorem dX1_planFor_11 : decode cX1_planFor 11 = .ok (.getfield 18, 3) := by decide +kernel
theorem dX1_planFor_14 : decode cX1_planFor 14 = .ok (.if_icmp .ge 89, 3) := by decide +kernel
theorem dX1_planFor_17 : decode cX1_planFor 17 = .ok (.iload_n 1, 1) := by decide +kernel
theorem dX1_planFor_18 : decode cX1_planFor 18 = .ok (.aload_n 0, 1) := by decide +kernel
theorem dX1_planFor_19 : decode cX1_planFor 19 = .ok (.getfield 31, 3) := by decide +kernel
theorem dX1_planFor_22 : decode cX1_planFor 22 = .ok (.iload_n 3, 1) := by decide +kernel
theorem dX1_planFor_23 : decode cX1_planFor 23 = .ok (.iaload, 1) := by decide +kernel
theorem dX1_planFor_24 : decode cX1_planFor 24 = .ok (.iand, 1) := by decide +kernel
theorem dX1_planFor_25 : decode cX1_planFor 25 = .ok (.istore 4, 2) := by decide +kernel
theorem dX1_planFor_27 : decode cX1_planFor 27 = .ok (.iload 4, 2) := by decide +kernel
theorem dX1_planFor_29 : decode cX1_planFor 29 = .ok (.ifCond .eq 68, 3) := by decide +kernel
theorem dX1_planFor_32 : decode cX1_planFor 32 = .ok (.iload 4, 2) := by decide +kernel
theorem dX1_planFor_34 : decode cX1_planFor 34 = .ok (.iload_n 1, 1) := by decide +kernel
theorem dX1_planFor_35 : decode cX1_planFor 35 = .ok (.if_icmp .ne 6, 3) := by decide +kernel
theorem dX1_planFor_38 : decode cX1_planFor 38 = .ok (.goto 59, 3) := by decide +kernel
theorem dX1_planFor_41 : decode cX1_planFor 41 = .ok (.aload_n 0, 1) := by decide +kernel
theorem dX1_planFor_42 : decode cX1_planFor 42 = .ok (.getfield 15, 3) := by decide +kernel
theorem dX1_planFor_45 : decode cX1_planFor 45 = .ok (.iload_n 3, 1) := by decide +kernel
theorem dX1_planFor_46 : decode cX1_planFor 46 = .ok (.iaload, 1) := by decide +kernel
theorem dX1_planFor_47 : decode cX1_planFor 47 = .ok (.iload_n 1, 1) := by decide +kernel
theorem dX1_planFor_48 : decode cX1_planFor 48 = .ok (.invokestatic 56, 3) := by decide +kernel
theorem dX1_planFor_51 : decode cX1_planFor 51 = .ok (.imul, 1) := by decide +kernel
theorem dX1_planFor_52 : decode cX1_planFor 52 = .ok (.aload_n 0, 1) := by decide +kernel
theorem dX1_planFor_53 : decode cX1_planFor 53 = .ok (.getfield 34, 3) := by decide +kernel
theorem dX1_planFor_56 : decode cX1_planFor 56 = .ok (.iload 4, 2) := by decide +kernel
theorem dX1_planFor_58 : decode cX1_planFor 58 = .ok (.iaload, 1) := by decide +kernel
theorem dX1_planFor_59 : decode cX1_planFor 59 = .ok (.iadd, 1) := by decide +kernel
theorem dX1_planFor_60 : decode cX1_planFor 60 = .ok (.aload_n 0, 1) := by decide +kernel
theorem dX1_planFor_61 : decode cX1_planFor 61 = .ok (.getfield 34, 3) := by decide +kernel
theorem dX1_planFor_64 : decode cX1_planFor 64 = .ok (.iload_n 1, 1) := by decide +kernel
theorem dX1_planFor_65 : decode cX1_planFor 65 = .ok (.iload 4, 2) := by decide +kernel
theorem dX1_planFor_67 : decode cX1_planFor 67 = .ok (.isub, 1) := by decide +kernel
theorem dX1_planFor_68 : decode cX1_planFor 68 = .ok (.iaload, 1) := by decide +kernel
theorem dX1_planFor_69 : decode cX1_planFor 69 = .ok (.iadd, 1) := by decide +kernel
theorem dX1_planFor_70 : decode cX1_planFor 70 = .ok (.istore 5, 2) := by decide +kernel
theorem dX1_planFor_72 : decode cX1_planFor 72 = .ok (.aload_n 0, 1) := by decide +kernel
theorem dX1_planFor_73 : decode cX1_planFor 73 = .ok (.getfield 37, 3) := by decide +kernel
theorem dX1_planFor_76 : decode cX1_planFor 76 = .ok (.iconst (-1), 1) := by decide +kernel
theorem dX1_planFor_77 : decode cX1_planFor 77 = .ok (.if_icmp .eq 12, 3) := by decide +kernel
theorem dX1_planFor_80 : decode cX1_planFor 80 = .ok (.iload 5, 2) := by decide +kernel
theorem dX1_planFor_82 : decode cX1_planFor 82 = .ok (.iload_n 2, 1) := by decide +kernel
theorem dX1_planFor_83 : decode cX1_planFor 83 = .ok (.if_icmp .lt 6, 3) := by decide +kernel
theorem dX1_planFor_86 : decode cX1_planFor 86 = .ok (.goto 11, 3) := by decide +kernel
theorem dX1_planFor_89 : decode cX1_planFor 89 = .ok (.iload 5, 2) := by decide +kernel
theorem dX1_planFor_91 : decode cX1_planFor 91 = .ok (.istore_n 2, 1) := by decide +kernel
theorem dX1_planFor_92 : decode cX1_planFor 92 = .ok (.aload_n 0, 1) := by decide +kernel
theorem dX1_planFor_93 : decode cX1_planFor 93 = .ok (.iload_n 3, 1) := by decide +kernel
theorem dX1_planFor_94 : decode cX1_planFor 94 = .ok (.putfield 37, 3) := by decide +kernel
theorem dX1_planFor_97 : decode cX1_planFor 97 = .ok (.iinc 3 1, 3) := by decide +kernel
theorem dX1_planFor_100 : decode cX1_planFor 100 = .ok (.goto (-91), 3) := by decide +kernel
theorem dX1_planFor_103 : decode cX1_planFor 103 = .ok (.aload_n 0, 1) := by decide +kernel
theorem dX1_planFor_104 : decode cX1_planFor 104 = .ok (.getfield 34, 3) := by decide +kernel
theorem dX1_planFor_107 : decode cX1_planFor 107 = .ok (.iload_n 1, 1) := by decide +kernel
theorem dX1_planFor_108 : decode cX1_planFor 108 = .ok (.iload_n 2, 1) := by decide +kernel
theorem dX1_planFor_109 : decode cX1_planFor 109 = .ok (.iastore, 1) := by decide +kernel
theorem dX1_planFor_110 : decode cX1_planFor 110 = .ok (.return_, 1) := by decide +kernel
theorem dX1_digestFrom_0 : decode cX1_digestFrom 0 = .ok (.lload_n 1, 1) := by decide +kernel
theorem dX1_digestFrom_1 : decode cX1_digestFrom 1 = .ok (.lstore_n 3, 1) := by decide +kernel
theorem dX1_digestFrom_2 : decode cX1_digestFrom 2 = .ok (.iconst 0, 1) := by decide +kernel
theorem dX1_digestFrom_3 : decode cX1_digestFrom 3 = .ok (.istore 5, 2) := by decide +kernel
theorem dX1_digestFrom_5 : decode cX1_digestFrom 5 = .ok (.iload 5, 2) := by decide +kernel
theorem dX1_digestFrom_7 : decode cX1_digestFrom 7 = .ok (.aload_n 0, 1) := by decide +kernel
theorem dX1_digestFrom_8 : decode cX1_digestFrom 8 = .ok (.getfield 18, 3) := by decide +kernel
theorem dX1_digestFrom_11 : decode cX1_digestFrom 11 = .ok (.if_icmp .ge 39, 3) := by decide +kernel
theorem dX1_digestFrom_14 : decode cX1_digestFrom 14 = .ok (.ldc2_w 80, 3) := by decide +kernel
theorem dX1_digestFrom_17 : decode cX1_digestFrom 17 = .ok (.lload_n 3, 1) := by decide +kernel
theorem dX1_digestFrom_18 : decode cX1_digestFrom 18 = .ok (.lmul, 1) := by decide +kernel
theorem dX1_digestFrom_19 : decode cX1_digestFrom 19 = .ok (.aload_n 0, 1) := by decide +kernel
theorem dX1_digestFrom_20 : decode cX1_digestFrom 20 = .ok (.getfield 11, 3) := by decide +kernel
theorem dX1_digestFrom_23 : decode cX1_digestFrom 23 = .ok (.iload 5, 2) := by decide +kernel
theorem dX1_digestFrom_25 : decode cX1_digestFrom 25 = .ok (.iaload, 1) := by decide +kernel
theorem dX1_digestFrom_26 : decode cX1_digestFrom 26 = .ok (.i2l, 1) := by decide +kernel
theorem dX1_digestFrom_27 : decode cX1_digestFrom 27 = .ok (.ladd, 1) := by decide +kernel
theorem dX1_digestFrom_28 : decode cX1_digestFrom 28 = .ok (.lstore_n 3, 1) := by decide +kernel
theorem dX1_digestFrom_29 : decode cX1_digestFrom 29 = .ok (.ldc2_w 80, 3) := by decide +kernel
theorem dX1_digestFrom_32 : decode cX1_digestFrom 32 = .ok (.lload_n 3, 1) := by decide +kernel
theorem dX1_digestFrom_33 : decode cX1_digestFrom 33 = .ok (.lmul, 1) := by decide +kernel
theorem dX1_digestFrom_34 : decode cX1_digestFrom 34 = .ok (.aload_n 0, 1) := by decide +kernel
theorem dX1_digestFrom_35 : decode cX1_digestFrom 35 = .ok (.getfield 15, 3) := by decide +kernel
theorem dX1_digestFrom_38 : decode cX1_digestFrom 38 = .ok (.iload 5, 2) := by decide +kernel
theorem dX1_digestFrom_40 : decode cX1_digestFrom 40 = .ok (.iaload, 1) := by decide +kernel
theorem dX1_digestFrom_41 : decode cX1_digestFrom 41 = .ok (.i2l, 1) := by decide +kernel
theorem dX1_digestFrom_42 : decode cX1_digestFrom 42 = .ok (.ladd, 1) := by decide +kernel
theorem dX1_digestFrom_43 : decode cX1_digestFrom 43 = .ok (.lstore_n 3, 1) := by decide +kernel
theorem dX1_digestFrom_44 : decode cX1_digestFrom 44 = .ok (.iinc 5 1, 3) := by decide +kernel
theorem dX1_digestFrom_47 : decode cX1_digestFrom 47 = .ok (.goto (-42), 3) := by decide +kernel
theorem dX1_digestFrom_50 : decode cX1_digestFrom 50 = .ok (.lload_n 3, 1) := by decide +kernel
theorem dX1_digestFrom_51 : decode cX1_digestFrom 51 = .ok (.lreturn, 1) := by decide +kernel
set_option maxRecDepth 20000 in
theorem ggX2_init_X1_init : GoodIn wsX2_init wsX1_init := goodIn_r _ [19, 20, 2, 3, 7, 21, 22, 23, 24, 25, 26, 27, 28, 29, 30, 31, 32, 33, 43, 44, 45, 46, 47, 48, 49, 50, 51, 52, 53, 54, 55] (by decide +kernel) (by decide +kernel)
set_option maxRecDepth 20000 in
theorem gX2_init_X1_init_n41 : GoodIn wsX2_init (wsX1_init) := ggX2_init_X1_init
