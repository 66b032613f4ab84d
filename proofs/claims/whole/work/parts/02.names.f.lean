theorem dX3_wasBad_80 : decode cX3_wasBad 80 = .ok (.getfield 35, 3) := by decide +kernel
theorem dX3_wasBad_83 : decode cX3_wasBad 83 = .ok (.iload_n 1, 1) := by decide +kernel
theorem dX3_wasBad_84 : decode cX3_wasBad 84 = .ok (.iaload, 1) := by decide +kernel
theorem dX3_wasBad_85 : decode cX3_wasBad 85 = .ok (.aload_n 0, 1) := by decide +kernel
theorem dX3_wasBad_86 : decode cX3_wasBad 86 = .ok (.getfield 16, 3) := by decide +kernel
theorem dX3_wasBad_89 : decode cX3_wasBad 89 = .ok (.iload_n 1, 1) := by decide +kernel
theorem dX3_wasBad_90 : decode cX3_wasBad 90 = .ok (.iaload, 1) := by decide +kernel
theorem dX3_wasBad_91 : decode cX3_wasBad 91 = .ok (.if_icmp .lt 88, 3) := by decide +kernel
theorem dX3_wasBad_94 : decode cX3_wasBad 94 = .ok (.aload_n 0, 1) := by decide +kernel
theorem dX3_wasBad_95 : decode cX3_wasBad 95 = .ok (.iload_n 1, 1) := by decide +kernel
theorem dX3_wasBad_96 : decode cX3_wasBad 96 = .ok (.invokevirtual 121, 3) := by decide +kernel
theorem dX3_wasBad_99 : decode cX3_wasBad 99 = .ok (.ifCond .ne 80, 3) := by decide +kernel
theorem dX3_wasBad_102 : decode cX3_wasBad 102 = .ok (.aload_n 0, 1) := by decide +kernel
theorem dX3_wasBad_103 : decode cX3_wasBad 103 = .ok (.getfield 32, 3) := by decide +kernel
theorem dX3_wasBad_106 : decode cX3_wasBad 106 = .ok (.iload_n 1, 1) := by decide +kernel
theorem dX3_wasBad_107 : decode cX3_wasBad 107 = .ok (.iconst 2, 1) := by decide +kernel
theorem dX3_wasBad_108 : decode cX3_wasBad 108 = .ok (.iastore, 1) := by decide +kernel
theorem dX3_wasBad_109 : decode cX3_wasBad 109 = .ok (.aload_n 0, 1) := by decide +kernel
theorem dX3_wasBad_110 : decode cX3_wasBad 110 = .ok (.getfield 53, 3) := by decide +kernel
theorem dX3_wasBad_113 : decode cX3_wasBad 113 = .ok (.iload_n 1, 1) := by decide +kernel
theorem dX3_wasBad_114 : decode cX3_wasBad 114 = .ok (.dup2, 1) := by decide +kernel
theorem dX3_wasBad_115 : decode cX3_wasBad 115 = .ok (.iaload, 1) := by decide +kernel
theorem dX3_wasBad_116 : decode cX3_wasBad 116 = .ok (.iconst 1, 1) := by decide +kernel
theorem dX3_wasBad_117 : decode cX3_wasBad 117 = .ok (.iadd, 1) := by decide +kernel
theorem dX3_wasBad_118 : decode cX3_wasBad 118 = .ok (.iastore, 1) := by decide +kernel
theorem dX3_wasBad_119 : decode cX3_wasBad 119 = .ok (.iconst 0, 1) := by decide +kernel
theorem dX3_wasBad_120 : decode cX3_wasBad 120 = .ok (.istore_n 3, 1) := by decide +kernel
theorem dX3_wasBad_121 : decode cX3_wasBad 121 = .ok (.iload_n 3, 1) := by decide +kernel
theorem dX3_wasBad_122 : decode cX3_wasBad 122 = .ok (.aload_n 0, 1) := by decide +kernel
theorem dX3_wasBad_123 : decode cX3_wasBad 123 = .ok (.getfield 93, 3) := by decide +kernel
theorem dX3_wasBad_126 : decode cX3_wasBad 126 = .ok (.if_icmp .ge 48, 3) := by decide +kernel
theorem dX3_wasBad_129 : decode cX3_wasBad 129 = .ok (.aload_n 0, 1) := by decide +kernel
theorem dX3_wasBad_130 : decode cX3_wasBad 130 = .ok (.getfield 56, 3) := by decide +kernel
theorem dX3_wasBad_133 : decode cX3_wasBad 133 = .ok (.bipush 16, 2) := by decide +kernel
theorem dX3_wasBad_135 : decode cX3_wasBad 135 = .ok (.iload_n 3, 1) := by decide +kernel
theorem dX3_wasBad_136 : decode cX3_wasBad 136 = .ok (.imul, 1) := by decide +kernel
theorem dX3_wasBad_137 : decode cX3_wasBad 137 = .ok (.iload_n 1, 1) := by decide +kernel
theorem dX3_wasBad_138 : decode cX3_wasBad 138 = .ok (.iadd, 1) := by decide +kernel
theorem dX3_wasBad_139 : decode cX3_wasBad 139 = .ok (.dup2, 1) := by decide +kernel
theorem dX3_wasBad_140 : decode cX3_wasBad 140 = .ok (.iaload, 1) := by decide +kernel
theorem dX3_wasBad_141 : decode cX3_wasBad 141 = .ok (.aload_n 0, 1) := by decide +kernel
theorem dX3_wasBad_142 : decode cX3_wasBad 142 = .ok (.getfield 47, 3) := by decide +kernel
theorem dX3_wasBad_145 : decode cX3_wasBad 145 = .ok (.iload_n 3, 1) := by decide +kernel
theorem dX3_wasBad_146 : decode cX3_wasBad 146 = .ok (.iaload, 1) := by decide +kernel
theorem dX3_wasBad_147 : decode cX3_wasBad 147 = .ok (.iconst 1, 1) := by decide +kernel
theorem dX3_wasBad_148 : decode cX3_wasBad 148 = .ok (.if_icmp .eq 13, 3) := by decide +kernel
theorem dX3_wasBad_151 : decode cX3_wasBad 151 = .ok (.aload_n 0, 1) := by decide +kernel
theorem dX3_wasBad_152 : decode cX3_wasBad 152 = .ok (.getfield 47, 3) := by decide +kernel
theorem dX3_wasBad_155 : decode cX3_wasBad 155 = .ok (.iload_n 3, 1) := by decide +kernel
theorem dX3_wasBad_156 : decode cX3_wasBad 156 = .ok (.iaload, 1) := by decide +kernel
theorem dX3_wasBad_157 : decode cX3_wasBad 157 = .ok (.iconst 2, 1) := by decide +kernel
theorem dX3_wasBad_158 : decode cX3_wasBad 158 = .ok (.if_icmp .ne 7, 3) := by decide +kernel
theorem dX3_wasBad_161 : decode cX3_wasBad 161 = .ok (.iconst 1, 1) := by decide +kernel
theorem dX3_wasBad_162 : decode cX3_wasBad 162 = .ok (.goto 4, 3) := by decide +kernel
theorem dX3_wasBad_165 : decode cX3_wasBad 165 = .ok (.iconst 0, 1) := by decide +kernel
theorem dX3_wasBad_166 : decode cX3_wasBad 166 = .ok (.iadd, 1) := by decide +kernel
theorem dX3_wasBad_167 : decode cX3_wasBad 167 = .ok (.iastore, 1) := by decide +kernel
theorem dX3_wasBad_168 : decode cX3_wasBad 168 = .ok (.iinc 3 1, 3) := by decide +kernel
theorem dX3_wasBad_171 : decode cX3_wasBad 171 = .ok (.goto (-50), 3) := by decide +kernel
theorem dX3_wasBad_174 : decode cX3_wasBad 174 = .ok (.aload_n 0, 1) := by decide +kernel
theorem dX3_wasBad_175 : decode cX3_wasBad 175 = .ok (.iload_n 1, 1) := by decide +kernel
theorem dX3_wasBad_176 : decode cX3_wasBad 176 = .ok (.invokevirtual 124, 3) := by decide +kernel
theorem dX3_wasBad_179 : decode cX3_wasBad 179 = .ok (.return_, 1) := by decide +kernel
theorem dX3_wasGood_0 : decode cX3_wasGood 0 = .ok (.aload_n 0, 1) := by decide +kernel
theorem dX3_wasGood_1 : decode cX3_wasGood 1 = .ok (.getfield 35, 3) := by decide +kernel
theorem dX3_wasGood_4 : decode cX3_wasGood 4 = .ok (.iload_n 1, 1) := by decide +kernel
theorem dX3_wasGood_5 : decode cX3_wasGood 5 = .ok (.iconst 0, 1) := by decide +kernel
theorem dX3_wasGood_6 : decode cX3_wasGood 6 = .ok (.iastore, 1) := by decide +kernel
theorem dX3_wasGood_7 : decode cX3_wasGood 7 = .ok (.aload_n 0, 1) := by decide +kernel
theorem dX3_wasGood_8 : decode cX3_wasGood 8 = .ok (.getfield 38, 3) := by decide +kernel
theorem dX3_wasGood_11 : decode cX3_wasGood 11 = .ok (.iload_n 1, 1) := by decide +kernel
theorem dX3_wasGood_12 : decode cX3_wasGood 12 = .ok (.dup2, 1) := by decide +kernel
theorem dX3_wasGood_13 : decode cX3_wasGood 13 = .ok (.iaload, 1) := by decide +kernel
theorem dX3_wasGood_14 : decode cX3_wasGood 14 = .ok (.iconst 1, 1) := by decide +kernel
theorem dX3_wasGood_15 : decode cX3_wasGood 15 = .ok (.iadd, 1) := by decide +kernel
theorem dX3_wasGood_16 : decode cX3_wasGood 16 = .ok (.iastore, 1) := by decide +kernel
theorem dX3_wasGood_17 : decode cX3_wasGood 17 = .ok (.aload_n 0, 1) := by decide +kernel
theorem dX3_wasGood_18 : decode cX3_wasGood 18 = .ok (.getfield 32, 3) := by decide +kernel
theorem dX3_wasGood_21 : decode cX3_wasGood 21 = .ok (.iload_n 1, 1) := by decide +kernel
theorem dX3_wasGood_22 : decode cX3_wasGood 22 = .ok (.iaload, 1) := by decide +kernel
theorem dX3_wasGood_23 : decode cX3_wasGood 23 = .ok (.iconst 1, 1) := by decide +kernel
theorem dX3_wasGood_24 : decode cX3_wasGood 24 = .ok (.if_icmp .ne 13, 3) := by decide +kernel
theorem dX3_wasGood_27 : decode cX3_wasGood 27 = .ok (.aload_n 0, 1) := by decide +kernel
theorem dX3_wasGood_28 : decode cX3_wasGood 28 = .ok (.getfield 32, 3) := by decide +kernel
theorem dX3_wasGood_31 : decode cX3_wasGood 31 = .ok (.iload_n 1, 1) := by decide +kernel
theorem dX3_wasGood_32 : decode cX3_wasGood 32 = .ok (.iconst 0, 1) := by decide +kernel
theorem dX3_wasGood_33 : decode cX3_wasGood 33 = .ok (.iastore, 1) := by decide +kernel
theorem dX3_wasGood_34 : decode cX3_wasGood 34 = .ok (.goto 42, 3) := by decide +kernel
theorem dX3_wasGood_37 : decode cX3_wasGood 37 = .ok (.aload_n 0, 1) := by decide +kernel
theorem dX3_wasGood_38 : decode cX3_wasGood 38 = .ok (.getfield 32, 3) := by decide +kernel
theorem dX3_wasGood_41 : decode cX3_wasGood 41 = .ok (.iload_n 1, 1) := by decide +kernel
theorem dX3_wasGood_42 : decode cX3_wasGood 42 = .ok (.iaload, 1) := by decide +kernel
theorem dX3_wasGood_43 : decode cX3_wasGood 43 = .ok (.iconst 2, 1) := by decide +kernel
theorem dX3_wasGood_44 : decode cX3_wasGood 44 = .ok (.if_icmp .ne 32, 3) := by decide +kernel
theorem dX3_wasGood_47 : decode cX3_wasGood 47 = .ok (.aload_n 0, 1) := by decide +kernel
theorem dX3_wasGood_48 : decode cX3_wasGood 48 = .ok (.getfield 38, 3) := by decide +kernel
theorem dX3_wasGood_51 : decode cX3_wasGood 51 = .ok (.iload_n 1, 1) := by decide +kernel
theorem dX3_wasGood_52 : decode cX3_wasGood 52 = .ok (.iaload, 1) := by decide +kernel
theorem dX3_wasGood_53 : decode cX3_wasGood 53 = .ok (.aload_n 0, 1) := by decide +kernel
theorem dX3_wasGood_54 : decode cX3_wasGood 54 = .ok (.getfield 19, 3) := by decide +kernel
theorem dX3_wasGood_57 : decode cX3_wasGood 57 = .ok (.iload_n 1, 1) := by decide +kernel
theorem dX3_wasGood_58 : decode cX3_wasGood 58 = .ok (.iaload, 1) := by decide +kernel
theorem dX3_wasGood_59 : decode cX3_wasGood 59 = .ok (.if_icmp .lt 17, 3) := by decide +kernel
theorem dX3_wasGood_62 : decode cX3_wasGood 62 = .ok (.aload_n 0, 1) := by decide +kernel
theorem dX3_wasGood_63 : decode cX3_wasGood 63 = .ok (.getfield 32, 3) := by decide +kernel
theorem dX3_wasGood_66 : decode cX3_wasGood 66 = .ok (.iload_n 1, 1) := by decide +kernel
theorem dX3_wasGood_67 : decode cX3_wasGood 67 = .ok (.iconst 3, 1) := by decide +kernel
theorem dX3_wasGood_68 : decode cX3_wasGood 68 = .ok (.iastore, 1) := by decide +kernel
theorem dX3_wasGood_69 : decode cX3_wasGood 69 = .ok (.aload_n 0, 1) := by decide +kernel
theorem dX3_wasGood_70 : decode cX3_wasGood 70 = .ok (.getfield 41, 3) := by decide +kernel
theorem dX3_wasGood_73 : decode cX3_wasGood 73 = .ok (.iload_n 1, 1) := by decide +kernel
theorem dX3_wasGood_74 : decode cX3_wasGood 74 = .ok (.iconst 0, 1) := by decide +kernel
theorem dX3_wasGood_75 : decode cX3_wasGood 75 = .ok (.iastore, 1) := by decide +kernel
theorem dX3_wasGood_76 : decode cX3_wasGood 76 = .ok (.return_, 1) := by decide +kernel
theorem dX3_ages_0 : decode cX3_ages 0 = .ok (.aload_n 0, 1) := by decide +kernel
theorem dX3_ages_1 : decode cX3_ages 1 = .ok (.getfield 41, 3) := by decide +kernel
theorem dX3_ages_4 : decode cX3_ages 4 = .ok (.iload_n 1, 1) := by decide +kernel
theorem dX3_ages_5 : decode cX3_ages 5 = .ok (.dup2, 1) := by decide +kernel
theorem dX3_ages_6 : decode cX3_ages 6 = .ok (.iaload, 1) := by decide +kernel
theorem dX3_ages_7 : decode cX3_ages 7 = .ok (.iconst 1, 1) := by decide +kernel
theorem dX3_ages_8 : decode cX3_ages 8 = .ok (.iadd, 1) := by decide +kernel
theorem dX3_ages_9 : decode cX3_ages 9 = .ok (.iastore, 1) := by decide +kernel
theorem dX3_ages_10 : decode cX3_ages 10 = .ok (.aload_n 0, 1) := by decide +kernel
theorem dX3_ages_11 : decode cX3_ages 11 = .ok (.getfield 41, 3) := by decide +kernel
theorem dX3_ages_14 : decode cX3_ages 14 = .ok (.iload_n 1, 1) := by decide +kernel
theorem dX3_ages_15 : decode cX3_ages 15 = .ok (.iaload, 1) := by decide +kernel
theorem dX3_ages_16 : decode cX3_ages 16 = .ok (.aload_n 0, 1) := by decide +kernel
theorem dX3_ages_17 : decode cX3_ages 17 = .ok (.getfield 7, 3) := by decide +kernel
theorem dX3_ages_20 : decode cX3_ages 20 = .ok (.iload_n 1, 1) := by decide +kernel
theorem dX3_ages_21 : decode cX3_ages 21 = .ok (.iaload, 1) := by decide +kernel
theorem dX3_ages_22 : decode cX3_ages 22 = .ok (.iconst 1, 1) := by decide +kernel
theorem dX3_ages_23 : decode cX3_ages 23 = .ok (.if_icmp .ne 14, 3) := by decide +kernel
theorem dX3_ages_26 : decode cX3_ages 26 = .ok (.iconst 2, 1) := by decide +kernel
theorem dX3_ages_27 : decode cX3_ages 27 = .ok (.aload_n 0, 1) := by decide +kernel
theorem dX3_ages_28 : decode cX3_ages 28 = .ok (.getfield 22, 3) := by decide +kernel
theorem dX3_ages_31 : decode cX3_ages 31 = .ok (.iload_n 1, 1) := by decide +kernel
theorem dX3_ages_32 : decode cX3_ages 32 = .ok (.iaload, 1) := by decide +kernel
theorem dX3_ages_33 : decode cX3_ages 33 = .ok (.imul, 1) := by decide +kernel
theorem dX3_ages_34 : decode cX3_ages 34 = .ok (.goto 9, 3) := by decide +kernel
theorem dX3_ages_37 : decode cX3_ages 37 = .ok (.aload_n 0, 1) := by decide +kernel
theorem dX3_ages_38 : decode cX3_ages 38 = .ok (.getfield 22, 3) := by decide +kernel
theorem dX3_ages_41 : decode cX3_ages 41 = .ok (.iload_n 1, 1) := by decide +kernel
theorem dX3_ages_42 : decode cX3_ages 42 = .ok (.iaload, 1) := by decide +kernel
theorem dX3_ages_43 : decode cX3_ages 43 = .ok (.if_icmp .lt 17, 3) := by decide +kernel
theorem dX3_ages_46 : decode cX3_ages 46 = .ok (.aload_n 0, 1) := by decide +kernel
theorem dX3_ages_47 : decode cX3_ages 47 = .ok (.getfield 32, 3) := by decide +kernel
theorem dX3_ages_50 : decode cX3_ages 50 = .ok (.iload_n 1, 1) := by decide +kernel
theorem dX3_ages_51 : decode cX3_ages 51 = .ok (.iconst 0, 1) := by decide +kernel
theorem dX3_ages_52 : decode cX3_ages 52 = .ok (.iastore, 1) := by decide +kernel
theorem dX3_ages_53 : decode cX3_ages 53 = .ok (.aload_n 0, 1) := by decide +kernel
theorem dX3_ages_54 : decode cX3_ages 54 = .ok (.getfield 66, 3) := by decide +kernel
theorem dX3_ages_57 : decode cX3_ages 57 = .ok (.iload_n 1, 1) := by decide +kernel
theorem dX3_ages_58 : decode cX3_ages 58 = .ok (.iconst 0, 1) := by decide +kernel
theorem dX3_ages_59 : decode cX3_ages 59 = .ok (.bastore, 1) := by decide +kernel
theorem dX3_ages_60 : decode cX3_ages 60 = .ok (.return_, 1) := by decide +kernel
set_option maxRecDepth 20000 in
theorem ggX3_end_X3_wasBad : GoodIn wsX3_end wsX3_wasBad := goodIn_r _ [12, 13, 14, 15, 6, 16, 3, 2, 17, 18, 19, 20, 21, 11, 22, 23, 24, 25, 26, 27, 28, 29, 30, 7, 31, 32, 33, 34, 35, 36, 37, 38, 39, 40, 41, 42, 43, 44, 55, 56, 57, 58, 59, 60, 61, 62, 63, 64, 65, 66, 67, 68, 69, 70, 71, 72, 73, 74, 75, 76, 77, 78, 79, 80, 81, 82, 83, 84, 85, 86, 87] (by decide +kernel) (by decide +kernel)
set_option maxRecDepth 20000 in
theorem gX3_end_X3_wasBad : GoodIn wsX3_end (wsV RX3 128 RX3 yX3_wasBad wsX3_wasBad) := goodIn_app (goodIn_of _ (by decide +kernel)) ggX3_end_X3_wasBad
set_option maxRecDepth 20000 in
theorem ggX3_end_X3_wasGood : GoodIn wsX3_end wsX3_wasGood := goodIn_r _ [48, 15, 13, 6, 49, 14, 55, 56, 57, 58, 59, 60, 61, 62, 63, 64, 65, 66, 67, 68, 69, 70, 71, 72, 73, 74, 75, 76, 77, 78, 79, 80, 81, 82, 83, 84, 85, 86, 87] (by decide +kernel) (by decide +kernel)
set_option maxRecDepth 20000 in
theorem gX3_end_X3_wasGood : GoodIn wsX3_end (wsV RX3 131 RX3 yX3_wasGood wsX3_wasGood) := goodIn_app (goodIn_of _ (by decide +kernel)) ggX3_end_X3_wasGood
set_option maxRecDepth 20000 in
theorem ggX3_end_X3_ages : GoodIn wsX3_end wsX3_ages := goodIn_r _ [53, 14, 23, 54, 6, 29, 55, 56, 57, 58, 59, 60, 61, 62, 63, 64, 65, 66, 67, 68, 69, 70, 71, 72, 73, 74, 75, 76, 77, 78, 79, 80, 81, 82, 83, 84, 85, 86, 87] (by decide +kernel) (by decide +kernel)
set_option maxRecDepth 20000 in
theorem gX3_end_X3_ages : GoodIn wsX3_end (wsV RX3 134 RX3 yX3_ages wsX3_ages) := goodIn_app (goodIn_of _ (by decide +kernel)) ggX3_end_X3_ages
theorem dX3_end_0 : decode cX3_end 0 = .ok (.aload_n 0, 1) := by decide +kernel
theorem dX3_end_1 : decode cX3_end 1 = .ok (.getfield 104, 3) := by decide +kernel
theorem dX3_end_4 : decode cX3_end 4 = .ok (.ifCond .ne 6, 3) := by decide +kernel
theorem dX3_end_7 : decode cX3_end 7 = .ok (.bipush (-3), 2) := by decide +kernel
theorem dX3_end_9 : decode cX3_end 9 = .ok (.ireturn, 1) := by decide +kernel
theorem dX3_end_10 : decode cX3_end 10 = .ok (.aload_n 0, 1) := by decide +kernel
theorem dX3_end_11 : decode cX3_end 11 = .ok (.iconst 0, 1) := by decide +kernel
theorem dX3_end_12 : decode cX3_end 12 = .ok (.putfield 104, 3) := by decide +kernel
theorem dX3_end_15 : decode cX3_end 15 = .ok (.iconst 0, 1) := by decide +kernel
theorem dX3_end_16 : decode cX3_end 16 = .ok (.istore_n 1, 1) := by decide +kernel
theorem dX3_end_17 : decode cX3_end 17 = .ok (.iconst 0, 1) := by decide +kernel
theorem dX3_end_18 : decode cX3_end 18 = .ok (.istore_n 2, 1) := by decide +kernel
theorem dX3_end_19 : decode cX3_end 19 = .ok (.iload_n 2, 1) := by decide +kernel
theorem dX3_end_20 : decode cX3_end 20 = .ok (.aload_n 0, 1) := by decide +kernel
theorem dX3_end_21 : decode cX3_end 21 = .ok (.getfield 93, 3) := by decide +kernel
theorem dX3_end_24 : decode cX3_end 24 = .ok (.if_icmp .ge 114, 3) := by decide +kernel
theorem dX3_end_27 : decode cX3_end 27 = .ok (.aload_n 0, 1) := by decide +kernel
theorem dX3_end_28 : decode cX3_end 28 = .ok (.getfield 53, 3) := by decide +kernel
theorem dX3_end_31 : decode cX3_end 31 = .ok (.iload_n 2, 1) := by decide +kernel
theorem dX3_end_32 : decode cX3_end 32 = .ok (.iaload, 1) := by decide +kernel
theorem dX3_end_33 : decode cX3_end 33 = .ok (.istore_n 3, 1) := by decide +kernel
theorem dX3_end_34 : decode cX3_end 34 = .ok (.aload_n 0, 1) := by decide +kernel
theorem dX3_end_35 : decode cX3_end 35 = .ok (.getfield 44, 3) := by decide +kernel
theorem dX3_end_38 : decode cX3_end 38 = .ok (.iload_n 2, 1) := by decide +kernel
theorem dX3_end_39 : decode cX3_end 39 = .ok (.aload_n 0, 1) := by decide +kernel
theorem dX3_end_40 : decode cX3_end 40 = .ok (.getfield 44, 3) := by decide +kernel
theorem dX3_end_43 : decode cX3_end 43 = .ok (.iload_n 2, 1) := by decide +kernel
theorem dX3_end_44 : decode cX3_end 44 = .ok (.baload, 1) := by decide +kernel
theorem dX3_end_45 : decode cX3_end 45 = .ok (.ifCond .ne 12, 3) := by decide +kernel
theorem dX3_end_48 : decode cX3_end 48 = .ok (.aload_n 0, 1) := by decide +kernel
theorem dX3_end_49 : decode cX3_end 49 = .ok (.getfield 50, 3) := by decide +kernel
theorem dX3_end_52 : decode cX3_end 52 = .ok (.iload_n 2, 1) := by decide +kernel
theorem dX3_end_53 : decode cX3_end 53 = .ok (.iaload, 1) := by decide +kernel
theorem dX3_end_54 : decode cX3_end 54 = .ok (.ifCond .le 7, 3) := by decide +kernel
theorem dX3_end_57 : decode cX3_end 57 = .ok (.iconst 1, 1) := by decide +kernel
theorem dX3_end_58 : decode cX3_end 58 = .ok (.goto 4, 3) := by decide +kernel
theorem dX3_end_61 : decode cX3_end 61 = .ok (.iconst 0, 1) := by decide +kernel
theorem dX3_end_62 : decode cX3_end 62 = .ok (.bastore, 1) := by decide +kernel
theorem dX3_end_63 : decode cX3_end 63 = .ok (.aload_n 0, 1) := by decide +kernel
theorem dX3_end_64 : decode cX3_end 64 = .ok (.getfield 50, 3) := by decide +kernel
theorem dX3_end_67 : decode cX3_end 67 = .ok (.iload_n 2, 1) := by decide +kernel
theorem dX3_end_68 : decode cX3_end 68 = .ok (.iaload, 1) := by decide +kernel
theorem dX3_end_69 : decode cX3_end 69 = .ok (.iconst 2, 1) := by decide +kernel
theorem dX3_end_70 : decode cX3_end 70 = .ok (.if_icmp .ne 11, 3) := by decide +kernel
theorem dX3_end_73 : decode cX3_end 73 = .ok (.aload_n 0, 1) := by decide +kernel
theorem dX3_end_74 : decode cX3_end 74 = .ok (.iload_n 2, 1) := by decide +kernel
theorem dX3_end_75 : decode cX3_end 75 = .ok (.invokevirtual 128, 3) := by decide +kernel
theorem dX3_end_78 : decode cX3_end 78 = .ok (.goto 18, 3) := by decide +kernel
theorem dX3_end_81 : decode cX3_end 81 = .ok (.aload_n 0, 1) := by decide +kernel
theorem dX3_end_82 : decode cX3_end 82 = .ok (.getfield 50, 3) := by decide +kernel
theorem dX3_end_85 : decode cX3_end 85 = .ok (.iload_n 2, 1) := by decide +kernel
theorem dX3_end_86 : decode cX3_end 86 = .ok (.iaload, 1) := by decide +kernel
theorem dX3_end_87 : decode cX3_end 87 = .ok (.iconst 1, 1) := by decide +kernel
theorem dX3_end_88 : decode cX3_end 88 = .ok (.if_icmp .ne 8, 3) := by decide +kernel
theorem dX3_end_91 : decode cX3_end 91 = .ok (.aload_n 0, 1) := by decide +kernel
theorem dX3_end_92 : decode cX3_end 92 = .ok (.iload_n 2, 1) := by decide +kernel
theorem dX3_end_93 : decode cX3_end 93 = .ok (.invokevirtual 131, 3) := by decide +kernel
theorem dX3_end_96 : decode cX3_end 96 = .ok (.aload_n 0, 1) := by decide +kernel
theorem dX3_end_97 : decode cX3_end 97 = .ok (.getfield 32, 3) := by decide +kernel
theorem dX3_end_100 : decode cX3_end 100 = .ok (.iload_n 2, 1) := by decide +kernel
theorem dX3_end_101 : decode cX3_end 101 = .ok (.iaload, 1) := by decide +kernel
theorem dX3_end_102 : decode cX3_end 102 = .ok (.iconst 3, 1) := by decide +kernel
theorem dX3_end_103 : decode cX3_end 103 = .ok (.if_icmp .ne 18, 3) := by decide +kernel
theorem dX3_end_106 : decode cX3_end 106 = .ok (.aload_n 0, 1) := by decide +kernel
theorem dX3_end_107 : decode cX3_end 107 = .ok (.getfield 50, 3) := by decide +kernel
theorem dX3_end_110 : decode cX3_end 110 = .ok (.iload_n 2, 1) := by decide +kernel
theorem dX3_end_111 : decode cX3_end 111 = .ok (.iaload, 1) := by decide +kernel
theorem dX3_end_112 : decode cX3_end 112 = .ok (.iconst 2, 1) := by decide +kernel
theorem dX3_end_113 : decode cX3_end 113 = .ok (.if_icmp .eq 8, 3) := by decide +kernel
theorem dX3_end_116 : decode cX3_end 116 = .ok (.aload_n 0, 1) := by decide +kernel
theorem dX3_end_117 : decode cX3_end 117 = .ok (.iload_n 2, 1) := by decide +kernel
theorem dX3_end_118 : decode cX3_end 118 = .ok (.invokevirtual 134, 3) := by decide +kernel
theorem dX3_end_121 : decode cX3_end 121 = .ok (.iload_n 1, 1) := by decide +kernel
theorem dX3_end_122 : decode cX3_end 122 = .ok (.aload_n 0, 1) := by decide +kernel
theorem dX3_end_123 : decode cX3_end 123 = .ok (.getfield 53, 3) := by decide +kernel
theorem dX3_end_126 : decode cX3_end 126 = .ok (.iload_n 2, 1) := by decide +kernel
theorem dX3_end_127 : decode cX3_end 127 = .ok (.iaload, 1) := by decide +kernel
theorem dX3_end_128 : decode cX3_end 128 = .ok (.iload_n 3, 1) := by decide +kernel
theorem dX3_end_129 : decode cX3_end 129 = .ok (.isub, 1) := by decide +kernel
theorem dX3_end_130 : decode cX3_end 130 = .ok (.iadd, 1) := by decide +kernel
theorem dX3_end_131 : decode cX3_end 131 = .ok (.istore_n 1, 1) := by decide +kernel
theorem dX3_end_132 : decode cX3_end 132 = .ok (.iinc 2 1, 3) := by decide +kernel
theorem dX3_end_135 : decode cX3_end 135 = .ok (.goto (-116), 3) := by decide +kernel
theorem dX3_end_138 : decode cX3_end 138 = .ok (.aload_n 0, 1) := by decide +kernel
theorem dX3_end_139 : decode cX3_end 139 = .ok (.dup, 1) := by decide +kernel
theorem dX3_end_140 : decode cX3_end 140 = .ok (.getfield 108, 3) := by decide +kernel
theorem dX3_end_143 : decode cX3_end 143 = .ok (.iconst 1, 1) := by decide +kernel
theorem dX3_end_144 : decode cX3_end 144 = .ok (.iadd, 1) := by decide +kernel
theorem dX3_end_145 : decode cX3_end 145 = .ok (.putfield 108, 3) := by decide +kernel
theorem dX3_end_148 : decode cX3_end 148 = .ok (.iload_n 1, 1) := by decide +kernel
theorem dX3_end_149 : decode cX3_end 149 = .ok (.ireturn, 1) := by decide +kernel
set_option maxRecDepth 20000 in
theorem ggX3_fact_X3_in : GoodIn wsX3_fact wsX3_in := goodIn_r _ [5] (by decide +kernel) (by decide +kernel)
set_option maxRecDepth 20000 in
theorem gX3_fact_X3_in : GoodIn wsX3_fact (va_wsS RX3 96 yX3_in wsX3_in) := goodIn_app (goodIn_of _ (by decide +kernel)) ggX3_fact_X3_in
theorem dX3_fact_0 : decode cX3_fact 0 = .ok (.iload_n 1, 1) := by decide +kernel
theorem dX3_fact_1 : decode cX3_fact 1 = .ok (.iconst 0, 1) := by decide +kernel
theorem dX3_fact_2 : decode cX3_fact 2 = .ok (.iconst 3, 1) := by decide +kernel
theorem dX3_fact_3 : decode cX3_fact 3 = .ok (.invokestatic 96, 3) := by decide +kernel
theorem dX3_fact_6 : decode cX3_fact 6 = .ok (.ifCond .eq 16, 3) := by decide +kernel
theorem dX3_fact_9 : decode cX3_fact 9 = .ok (.iload_n 2, 1) := by decide +kernel
theorem dX3_fact_10 : decode cX3_fact 10 = .ok (.sipush (-1000), 3) := by decide +kernel
theorem dX3_fact_13 : decode cX3_fact 13 = .ok (.sipush 1000, 3) := by decide +kernel
theorem dX3_fact_16 : decode cX3_fact 16 = .ok (.invokestatic 96, 3) := by decide +kernel
theorem dX3_fact_19 : decode cX3_fact 19 = .ok (.ifCond .ne 7, 3) := by decide +kernel
theorem dX3_fact_22 : decode cX3_fact 22 = .ok (.sipush (-2000), 3) := by decide +kernel
theorem dX3_fact_25 : decode cX3_fact 25 = .ok (.ireturn, 1) := by decide +kernel
theorem dX3_fact_26 : decode cX3_fact 26 = .ok (.aload_n 0, 1) := by decide +kernel
theorem dX3_fact_27 : decode cX3_fact 27 = .ok (.getfield 59, 3) := by decide +kernel
theorem dX3_fact_30 : decode cX3_fact 30 = .ok (.iload_n 1, 1) := by decide +kernel
theorem dX3_fact_31 : decode cX3_fact 31 = .ok (.iaload, 1) := by decide +kernel
theorem dX3_fact_32 : decode cX3_fact 32 = .ok (.istore_n 3, 1) := by decide +kernel
theorem dX3_fact_33 : decode cX3_fact 33 = .ok (.aload_n 0, 1) := by decide +kernel
theorem dX3_fact_34 : decode cX3_fact 34 = .ok (.getfield 59, 3) := by decide +kernel
theorem dX3_fact_37 : decode cX3_fact 37 = .ok (.iload_n 1, 1) := by decide +kernel
theorem dX3_fact_38 : decode cX3_fact 38 = .ok (.iload_n 2, 1) := by decide +kernel
theorem dX3_fact_39 : decode cX3_fact 39 = .ok (.iastore, 1) := by decide +kernel
theorem dX3_fact_40 : decode cX3_fact 40 = .ok (.iload_n 3, 1) := by decide +kernel
theorem dX3_fact_41 : decode cX3_fact 41 = .ok (.ireturn, 1) := by decide +kernel
set_option maxRecDepth 20000 in
theorem ggX3_aboutOf_X3_isHeld : GoodIn wsX3_aboutOf wsX3_isHeld := goodIn_r _ [12, 7, 1, 13, 14, 15, 16, 17, 18, 19, 20, 21, 22, 23, 24, 25, 26, 27, 28, 29, 30, 31, 32, 33, 34, 35, 36, 37, 38, 39, 40, 41, 42, 43, 44, 45, 46] (by decide +kernel) (by decide +kernel)
set_option maxRecDepth 20000 in
theorem gX3_aboutOf_X3_isHeld : GoodIn wsX3_aboutOf (wsV RX3 121 RX3 yX3_isHeld wsX3_isHeld) := goodIn_app (goodIn_of _ (by decide +kernel)) ggX3_aboutOf_X3_isHeld
theorem dX3_aboutOf_0 : decode cX3_aboutOf 0 = .ok (.iload_n 2, 1) := by decide +kernel
theorem dX3_aboutOf_1 : decode cX3_aboutOf 1 = .ok (.tableswitch 115 0 6 #[43, 50, 57, 64, 71, 85, 100], 43) := by decide +kernel
theorem dX3_aboutOf_44 : decode cX3_aboutOf 44 = .ok (.aload_n 0, 1) := by decide +kernel
theorem dX3_aboutOf_45 : decode cX3_aboutOf 45 = .ok (.getfield 32, 3) := by decide +kernel
theorem dX3_aboutOf_48 : decode cX3_aboutOf 48 = .ok (.iload_n 1, 1) := by decide +kernel
theorem dX3_aboutOf_49 : decode cX3_aboutOf 49 = .ok (.iaload, 1) := by decide +kernel
theorem dX3_aboutOf_50 : decode cX3_aboutOf 50 = .ok (.ireturn, 1) := by decide +kernel
theorem dX3_aboutOf_51 : decode cX3_aboutOf 51 = .ok (.aload_n 0, 1) := by decide +kernel
theorem dX3_aboutOf_52 : decode cX3_aboutOf 52 = .ok (.getfield 35, 3) := by decide +kernel
theorem dX3_aboutOf_55 : decode cX3_aboutOf 55 = .ok (.iload_n 1, 1) := by decide +kernel
theorem dX3_aboutOf_56 : decode cX3_aboutOf 56 = .ok (.iaload, 1) := by decide +kernel
theorem dX3_aboutOf_57 : decode cX3_aboutOf 57 = .ok (.ireturn, 1) := by decide +kernel
theorem dX3_aboutOf_58 : decode cX3_aboutOf 58 = .ok (.aload_n 0, 1) := by decide +kernel
theorem dX3_aboutOf_59 : decode cX3_aboutOf 59 = .ok (.getfield 38, 3) := by decide +kernel
theorem dX3_aboutOf_62 : decode cX3_aboutOf 62 = .ok (.iload_n 1, 1) := by decide +kernel
theorem dX3_aboutOf_63 : decode cX3_aboutOf 63 = .ok (.iaload, 1) := by decide +kernel
theorem dX3_aboutOf_64 : decode cX3_aboutOf 64 = .ok (.ireturn, 1) := by decide +kernel
theorem dX3_aboutOf_65 : decode cX3_aboutOf 65 = .ok (.aload_n 0, 1) := by decide +kernel
theorem dX3_aboutOf_66 : decode cX3_aboutOf 66 = .ok (.getfield 41, 3) := by decide +kernel
theorem dX3_aboutOf_69 : decode cX3_aboutOf 69 = .ok (.iload_n 1, 1) := by decide +kernel
theorem dX3_aboutOf_70 : decode cX3_aboutOf 70 = .ok (.iaload, 1) := by decide +kernel
theorem dX3_aboutOf_71 : decode cX3_aboutOf 71 = .ok (.ireturn, 1) := by decide +kernel
theorem dX3_aboutOf_72 : decode cX3_aboutOf 72 = .ok (.aload_n 0, 1) := by decide +kernel
theorem dX3_aboutOf_73 : decode cX3_aboutOf 73 = .ok (.iload_n 1, 1) := by decide +kernel
theorem dX3_aboutOf_74 : decode cX3_aboutOf 74 = .ok (.invokevirtual 121, 3) := by decide +kernel
theorem dX3_aboutOf_77 : decode cX3_aboutOf 77 = .ok (.ifCond .eq 7, 3) := by decide +kernel
theorem dX3_aboutOf_80 : decode cX3_aboutOf 80 = .ok (.iconst 1, 1) := by decide +kernel
theorem dX3_aboutOf_81 : decode cX3_aboutOf 81 = .ok (.goto 4, 3) := by decide +kernel
theorem dX3_aboutOf_84 : decode cX3_aboutOf 84 = .ok (.iconst 0, 1) := by decide +kernel
theorem dX3_aboutOf_85 : decode cX3_aboutOf 85 = .ok (.ireturn, 1) := by decide +kernel
theorem dX3_aboutOf_86 : decode cX3_aboutOf 86 = .ok (.aload_n 0, 1) := by decide +kernel
theorem dX3_aboutOf_87 : decode cX3_aboutOf 87 = .ok (.getfield 66, 3) := by decide +kernel
theorem dX3_aboutOf_90 : decode cX3_aboutOf 90 = .ok (.iload_n 1, 1) := by decide +kernel
theorem dX3_aboutOf_91 : decode cX3_aboutOf 91 = .ok (.baload, 1) := by decide +kernel
theorem dX3_aboutOf_92 : decode cX3_aboutOf 92 = .ok (.ifCond .eq 7, 3) := by decide +kernel
theorem dX3_aboutOf_95 : decode cX3_aboutOf 95 = .ok (.iconst 1, 1) := by decide +kernel
theorem dX3_aboutOf_96 : decode cX3_aboutOf 96 = .ok (.goto 4, 3) := by decide +kernel
theorem dX3_aboutOf_99 : decode cX3_aboutOf 99 = .ok (.iconst 0, 1) := by decide +kernel
theorem dX3_aboutOf_100 : decode cX3_aboutOf 100 = .ok (.ireturn, 1) := by decide +kernel
theorem dX3_aboutOf_101 : decode cX3_aboutOf 101 = .ok (.aload_n 0, 1) := by decide +kernel
theorem dX3_aboutOf_102 : decode cX3_aboutOf 102 = .ok (.getfield 44, 3) := by decide +kernel
theorem dX3_aboutOf_105 : decode cX3_aboutOf 105 = .ok (.iload_n 1, 1) := by decide +kernel
theorem dX3_aboutOf_106 : decode cX3_aboutOf 106 = .ok (.baload, 1) := by decide +kernel
theorem dX3_aboutOf_107 : decode cX3_aboutOf 107 = .ok (.ifCond .eq 7, 3) := by decide +kernel
theorem dX3_aboutOf_110 : decode cX3_aboutOf 110 = .ok (.iconst 1, 1) := by decide +kernel
theorem dX3_aboutOf_111 : decode cX3_aboutOf 111 = .ok (.goto 4, 3) := by decide +kernel
theorem dX3_aboutOf_114 : decode cX3_aboutOf 114 = .ok (.iconst 0, 1) := by decide +kernel
theorem dX3_aboutOf_115 : decode cX3_aboutOf 115 = .ok (.ireturn, 1) := by decide +kernel
theorem dX3_aboutOf_116 : decode cX3_aboutOf 116 = .ok (.aload_n 0, 1) := by decide +kernel
theorem dX3_aboutOf_117 : decode cX3_aboutOf 117 = .ok (.getfield 7, 3) := by decide +kernel
theorem dX3_aboutOf_120 : decode cX3_aboutOf 120 = .ok (.iload_n 1, 1) := by decide +kernel
theorem dX3_aboutOf_121 : decode cX3_aboutOf 121 = .ok (.iaload, 1) := by decide +kernel
theorem dX3_aboutOf_122 : decode cX3_aboutOf 122 = .ok (.ireturn, 1) := by decide +kernel
set_option maxRecDepth 20000 in
theorem ggX3_about_X3_isCheck : GoodIn wsX3_about wsX3_isCheck := goodIn_r _ [5, 6, 7, 8, 4, 9, 26, 27, 28, 29, 30, 31, 32, 33, 34, 35, 36, 37, 38, 39, 40, 41, 42, 43, 44, 45, 46, 47, 48, 49, 50, 51, 52, 53, 54, 55, 56, 57, 58] (by decide +kernel) (by decide +kernel)
set_option maxRecDepth 20000 in
theorem gX3_about_X3_isCheck : GoodIn wsX3_about (wsV RX3 100 RX3 yX3_isCheck wsX3_isCheck) := goodIn_app (goodIn_of _ (by decide +kernel)) ggX3_about_X3_isCheck
set_option maxRecDepth 20000 in
theorem ggX3_about_X3_in : GoodIn wsX3_about wsX3_in := goodIn_r _ [9] (by decide +kernel) (by decide +kernel)
set_option maxRecDepth 20000 in
theorem gX3_about_X3_in : GoodIn wsX3_about (va_wsS RX3 96 yX3_in wsX3_in) := goodIn_app (goodIn_of _ (by decide +kernel)) ggX3_about_X3_in
set_option maxRecDepth 20000 in
theorem ggX3_about_X3_aboutOf : GoodIn wsX3_about wsX3_aboutOf := goodIn_r _ [13, 14, 15, 16, 17, 18, 19, 20, 21, 22, 23, 4, 24, 25, 26, 27, 28, 29, 30, 31, 32, 33, 34, 35, 36, 37, 38, 39, 40, 41, 42, 43, 44, 45, 46, 47, 48, 49, 50, 51, 52, 53, 54, 55, 56, 57, 58] (by decide +kernel) (by decide +kernel)
set_option maxRecDepth 20000 in
theorem gX3_about_X3_aboutOf : GoodIn wsX3_about (wsV RX3 137 RX3 yX3_aboutOf wsX3_aboutOf) := goodIn_app (goodIn_of _ (by decide +kernel)) ggX3_about_X3_aboutOf
theorem dX3_about_0 : decode cX3_about 0 = .ok (.aload_n 0, 1) := by decide +kernel
theorem dX3_about_1 : decode cX3_about 1 = .ok (.iload_n 1, 1) := by decide +kernel
theorem dX3_about_2 : decode cX3_about 2 = .ok (.invokevirtual 100, 3) := by decide +kernel
theorem dX3_about_5 : decode cX3_about 5 = .ok (.ifCond .eq 22, 3) := by decide +kernel
theorem dX3_about_8 : decode cX3_about 8 = .ok (.iload_n 2, 1) := by decide +kernel
theorem dX3_about_9 : decode cX3_about 9 = .ok (.iconst 0, 1) := by decide +kernel
theorem dX3_about_10 : decode cX3_about 10 = .ok (.bipush 7, 2) := by decide +kernel
theorem dX3_about_12 : decode cX3_about 12 = .ok (.invokestatic 96, 3) := by decide +kernel
theorem dX3_about_15 : decode cX3_about 15 = .ok (.ifCond .eq 12, 3) := by decide +kernel
theorem dX3_about_18 : decode cX3_about 18 = .ok (.aload_n 0, 1) := by decide +kernel
theorem dX3_about_19 : decode cX3_about 19 = .ok (.iload_n 1, 1) := by decide +kernel
theorem dX3_about_20 : decode cX3_about 20 = .ok (.iload_n 2, 1) := by decide +kernel
theorem dX3_about_21 : decode cX3_about 21 = .ok (.invokevirtual 137, 3) := by decide +kernel
theorem dX3_about_24 : decode cX3_about 24 = .ok (.goto 5, 3) := by decide +kernel
theorem dX3_about_27 : decode cX3_about 27 = .ok (.bipush (-2), 2) := by decide +kernel
theorem dX3_about_29 : decode cX3_about 29 = .ok (.ireturn, 1) := by decide +kernel
set_option maxRecDepth 20000 in
theorem ggX3_frozen_X3_isCheck : GoodIn wsX3_frozen wsX3_isCheck := goodIn_r _ [7, 8, 9, 10, 6, 11, 12, 13, 14, 15, 16, 17, 18, 19, 20, 21, 22, 23, 24, 25, 26, 27, 28, 29, 30, 31, 32, 33, 34, 35, 36, 37, 38, 39, 40, 41, 42, 43, 44] (by decide +kernel) (by decide +kernel)
set_option maxRecDepth 20000 in
theorem gX3_frozen_X3_isCheck : GoodIn wsX3_frozen (wsV RX3 100 RX3 yX3_isCheck wsX3_isCheck) := goodIn_app (goodIn_of _ (by decide +kernel)) ggX3_frozen_X3_isCheck
set_option maxRecDepth 20000 in
theorem ggX3_frozen_X3_in : GoodIn wsX3_frozen wsX3_in := goodIn_r _ [11] (by decide +kernel) (by decide +kernel)
set_option maxRecDepth 20000 in
theorem gX3_frozen_X3_in : GoodIn wsX3_frozen (va_wsS RX3 96 yX3_in wsX3_in) := goodIn_app (goodIn_of _ (by decide +kernel)) ggX3_frozen_X3_in
theorem dX3_frozen_0 : decode cX3_frozen 0 = .ok (.aload_n 0, 1) := by decide +kernel
theorem dX3_frozen_1 : decode cX3_frozen 1 = .ok (.iload_n 1, 1) := by decide +kernel
theorem dX3_frozen_2 : decode cX3_frozen 2 = .ok (.invokevirtual 100, 3) := by decide +kernel
theorem dX3_frozen_5 : decode cX3_frozen 5 = .ok (.ifCond .eq 34, 3) := by decide +kernel
theorem dX3_frozen_8 : decode cX3_frozen 8 = .ok (.iload_n 2, 1) := by decide +kernel
theorem dX3_frozen_9 : decode cX3_frozen 9 = .ok (.iconst 0, 1) := by decide +kernel
theorem dX3_frozen_10 : decode cX3_frozen 10 = .ok (.iconst 3, 1) := by decide +kernel
theorem dX3_frozen_11 : decode cX3_frozen 11 = .ok (.invokestatic 96, 3) := by decide +kernel
theorem dX3_frozen_14 : decode cX3_frozen 14 = .ok (.ifCond .eq 25, 3) := by decide +kernel
theorem dX3_frozen_17 : decode cX3_frozen 17 = .ok (.aload_n 0, 1) := by decide +kernel
theorem dX3_frozen_18 : decode cX3_frozen 18 = .ok (.getfield 66, 3) := by decide +kernel
theorem dX3_frozen_21 : decode cX3_frozen 21 = .ok (.iload_n 1, 1) := by decide +kernel
theorem dX3_frozen_22 : decode cX3_frozen 22 = .ok (.baload, 1) := by decide +kernel
theorem dX3_frozen_23 : decode cX3_frozen 23 = .ok (.ifCond .eq 16, 3) := by decide +kernel
theorem dX3_frozen_26 : decode cX3_frozen 26 = .ok (.aload_n 0, 1) := by decide +kernel
theorem dX3_frozen_27 : decode cX3_frozen 27 = .ok (.getfield 69, 3) := by decide +kernel
theorem dX3_frozen_30 : decode cX3_frozen 30 = .ok (.iconst 4, 1) := by decide +kernel
theorem dX3_frozen_31 : decode cX3_frozen 31 = .ok (.iload_n 1, 1) := by decide +kernel
theorem dX3_frozen_32 : decode cX3_frozen 32 = .ok (.imul, 1) := by decide +kernel
theorem dX3_frozen_33 : decode cX3_frozen 33 = .ok (.iload_n 2, 1) := by decide +kernel
theorem dX3_frozen_34 : decode cX3_frozen 34 = .ok (.iadd, 1) := by decide +kernel
theorem dX3_frozen_35 : decode cX3_frozen 35 = .ok (.iaload, 1) := by decide +kernel
theorem dX3_frozen_36 : decode cX3_frozen 36 = .ok (.goto 6, 3) := by decide +kernel
theorem dX3_frozen_39 : decode cX3_frozen 39 = .ok (.sipush (-2000), 3) := by decide +kernel
theorem dX3_frozen_42 : decode cX3_frozen 42 = .ok (.ireturn, 1) := by decide +kernel
set_option maxRecDepth 20000 in
theorem ggX3_frozenAt_X3_isCheck : GoodIn wsX3_frozenAt wsX3_isCheck := goodIn_r _ [7, 8, 9, 10, 6, 11, 12, 13, 14, 15, 16, 17, 18, 19, 20, 21, 22, 23, 24, 25, 26, 27, 28, 29, 30, 31, 32, 33, 34, 35, 36, 37, 38, 39, 40, 41, 42, 43, 44] (by decide +kernel) (by decide +kernel)
set_option maxRecDepth 20000 in
theorem gX3_frozenAt_X3_isCheck : GoodIn wsX3_frozenAt (wsV RX3 100 RX3 yX3_isCheck wsX3_isCheck) := goodIn_app (goodIn_of _ (by decide +kernel)) ggX3_frozenAt_X3_isCheck
theorem dX3_frozenAt_0 : decode cX3_frozenAt 0 = .ok (.aload_n 0, 1) := by decide +kernel
theorem dX3_frozenAt_1 : decode cX3_frozenAt 1 = .ok (.iload_n 1, 1) := by decide +kernel
theorem dX3_frozenAt_2 : decode cX3_frozenAt 2 = .ok (.invokevirtual 100, 3) := by decide +kernel
theorem dX3_frozenAt_5 : decode cX3_frozenAt 5 = .ok (.ifCond .ne 8, 3) := by decide +kernel
theorem dX3_frozenAt_8 : decode cX3_frozenAt 8 = .ok (.bipush (-2), 2) := by decide +kernel
theorem dX3_frozenAt_10 : decode cX3_frozenAt 10 = .ok (.goto 22, 3) := by decide +kernel
theorem dX3_frozenAt_13 : decode cX3_frozenAt 13 = .ok (.aload_n 0, 1) := by decide +kernel
theorem dX3_frozenAt_14 : decode cX3_frozenAt 14 = .ok (.getfield 66, 3) := by decide +kernel
theorem dX3_frozenAt_17 : decode cX3_frozenAt 17 = .ok (.iload_n 1, 1) := by decide +kernel
theorem dX3_frozenAt_18 : decode cX3_frozenAt 18 = .ok (.baload, 1) := by decide +kernel
theorem dX3_frozenAt_19 : decode cX3_frozenAt 19 = .ok (.ifCond .eq 12, 3) := by decide +kernel
theorem dX3_frozenAt_22 : decode cX3_frozenAt 22 = .ok (.aload_n 0, 1) := by decide +kernel
theorem dX3_frozenAt_23 : decode cX3_frozenAt 23 = .ok (.getfield 72, 3) := by decide +kernel
theorem dX3_frozenAt_26 : decode cX3_frozenAt 26 = .ok (.iload_n 1, 1) := by decide +kernel
theorem dX3_frozenAt_27 : decode cX3_frozenAt 27 = .ok (.iaload, 1) := by decide +kernel
theorem dX3_frozenAt_28 : decode cX3_frozenAt 28 = .ok (.goto 4, 3) := by decide +kernel
theorem dX3_frozenAt_31 : decode cX3_frozenAt 31 = .ok (.iconst (-1), 1) := by decide +kernel
theorem dX3_frozenAt_32 : decode cX3_frozenAt 32 = .ok (.ireturn, 1) := by decide +kernel
theorem dX3_lamp_0 : decode cX3_lamp 0 = .ok (.iconst 0, 1) := by decide +kernel
theorem dX3_lamp_1 : decode cX3_lamp 1 = .ok (.istore_n 1, 1) := by decide +kernel
theorem dX3_lamp_2 : decode cX3_lamp 2 = .ok (.iload_n 1, 1) := by decide +kernel
theorem dX3_lamp_3 : decode cX3_lamp 3 = .ok (.aload_n 0, 1) := by decide +kernel
theorem dX3_lamp_4 : decode cX3_lamp 4 = .ok (.getfield 93, 3) := by decide +kernel
theorem dX3_lamp_7 : decode cX3_lamp 7 = .ok (.if_icmp .ge 30, 3) := by decide +kernel
theorem dX3_lamp_10 : decode cX3_lamp 10 = .ok (.aload_n 0, 1) := by decide +kernel
theorem dX3_lamp_11 : decode cX3_lamp 11 = .ok (.getfield 28, 3) := by decide +kernel
theorem dX3_lamp_14 : decode cX3_lamp 14 = .ok (.iload_n 1, 1) := by decide +kernel
theorem dX3_lamp_15 : decode cX3_lamp 15 = .ok (.baload, 1) := by decide +kernel
theorem dX3_lamp_16 : decode cX3_lamp 16 = .ok (.ifCond .eq 15, 3) := by decide +kernel
theorem dX3_lamp_19 : decode cX3_lamp 19 = .ok (.aload_n 0, 1) := by decide +kernel
theorem dX3_lamp_20 : decode cX3_lamp 20 = .ok (.getfield 32, 3) := by decide +kernel
theorem dX3_lamp_23 : decode cX3_lamp 23 = .ok (.iload_n 1, 1) := by decide +kernel
theorem dX3_lamp_24 : decode cX3_lamp 24 = .ok (.iaload, 1) := by decide +kernel
theorem dX3_lamp_25 : decode cX3_lamp 25 = .ok (.iconst 2, 1) := by decide +kernel
theorem dX3_lamp_26 : decode cX3_lamp 26 = .ok (.if_icmp .ne 5, 3) := by decide +kernel
theorem dX3_lamp_29 : decode cX3_lamp 29 = .ok (.iconst 1, 1) := by decide +kernel
theorem dX3_lamp_30 : decode cX3_lamp 30 = .ok (.ireturn, 1) := by decide +kernel
theorem dX3_lamp_31 : decode cX3_lamp 31 = .ok (.iinc 1 1, 3) := by decide +kernel
theorem dX3_lamp_34 : decode cX3_lamp 34 = .ok (.goto (-32), 3) := by decide +kernel
theorem dX3_lamp_37 : decode cX3_lamp 37 = .ok (.iconst 0, 1) := by decide +kernel
theorem dX3_lamp_38 : decode cX3_lamp 38 = .ok (.ireturn, 1) := by decide +kernel
theorem dX3_clear_0 : decode cX3_clear 0 = .ok (.aload_n 0, 1) := by decide +kernel
theorem dX3_clear_1 : decode cX3_clear 1 = .ok (.getfield 104, 3) := by decide +kernel
theorem dX3_clear_4 : decode cX3_clear 4 = .ok (.ifCond .eq 6, 3) := by decide +kernel
theorem dX3_clear_7 : decode cX3_clear 7 = .ok (.bipush (-3), 2) := by decide +kernel
theorem dX3_clear_9 : decode cX3_clear 9 = .ok (.ireturn, 1) := by decide +kernel
theorem dX3_clear_10 : decode cX3_clear 10 = .ok (.iconst 0, 1) := by decide +kernel
theorem dX3_clear_11 : decode cX3_clear 11 = .ok (.istore_n 1, 1) := by decide +kernel
theorem dX3_clear_12 : decode cX3_clear 12 = .ok (.iconst 0, 1) := by decide +kernel
theorem dX3_clear_13 : decode cX3_clear 13 = .ok (.istore_n 2, 1) := by decide +kernel
theorem dX3_clear_14 : decode cX3_clear 14 = .ok (.iload_n 2, 1) := by decide +kernel
theorem dX3_clear_15 : decode cX3_clear 15 = .ok (.aload_n 0, 1) := by decide +kernel
theorem dX3_clear_16 : decode cX3_clear 16 = .ok (.getfield 93, 3) := by decide +kernel
theorem dX3_clear_19 : decode cX3_clear 19 = .ok (.if_icmp .ge 78, 3) := by decide +kernel
theorem dX3_clear_22 : decode cX3_clear 22 = .ok (.aload_n 0, 1) := by decide +kernel
theorem dX3_clear_23 : decode cX3_clear 23 = .ok (.getfield 35, 3) := by decide +kernel
theorem dX3_clear_26 : decode cX3_clear 26 = .ok (.iload_n 2, 1) := by decide +kernel
theorem dX3_clear_27 : decode cX3_clear 27 = .ok (.iconst 0, 1) := by decide +kernel
theorem dX3_clear_28 : decode cX3_clear 28 = .ok (.iastore, 1) := by decide +kernel
theorem dX3_clear_29 : decode cX3_clear 29 = .ok (.aload_n 0, 1) := by decide +kernel
theorem dX3_clear_30 : decode cX3_clear 30 = .ok (.getfield 38, 3) := by decide +kernel
theorem dX3_clear_33 : decode cX3_clear 33 = .ok (.iload_n 2, 1) := by decide +kernel
theorem dX3_clear_34 : decode cX3_clear 34 = .ok (.iconst 0, 1) := by decide +kernel
theorem dX3_clear_35 : decode cX3_clear 35 = .ok (.iastore, 1) := by decide +kernel
theorem dX3_clear_36 : decode cX3_clear 36 = .ok (.aload_n 0, 1) := by decide +kernel
theorem dX3_clear_37 : decode cX3_clear 37 = .ok (.getfield 41, 3) := by decide +kernel
theorem dX3_clear_40 : decode cX3_clear 40 = .ok (.iload_n 2, 1) := by decide +kernel
theorem dX3_clear_41 : decode cX3_clear 41 = .ok (.iconst 0, 1) := by decide +kernel
theorem dX3_clear_42 : decode cX3_clear 42 = .ok (.iastore, 1) := by decide +kernel
theorem dX3_clear_43 : decode cX3_clear 43 = .ok (.aload_n 0, 1) := by decide +kernel
theorem dX3_clear_44 : decode cX3_clear 44 = .ok (.getfield 44, 3) := by decide +kernel
theorem dX3_clear_47 : decode cX3_clear 47 = .ok (.iload_n 2, 1) := by decide +kernel
theorem dX3_clear_48 : decode cX3_clear 48 = .ok (.iconst 0, 1) := by decide +kernel
theorem dX3_clear_49 : decode cX3_clear 49 = .ok (.bastore, 1) := by decide +kernel
theorem dX3_clear_50 : decode cX3_clear 50 = .ok (.aload_n 0, 1) := by decide +kernel
theorem dX3_clear_51 : decode cX3_clear 51 = .ok (.getfield 7, 3) := by decide +kernel
theorem dX3_clear_54 : decode cX3_clear 54 = .ok (.iload_n 2, 1) := by decide +kernel
theorem dX3_clear_55 : decode cX3_clear 55 = .ok (.iaload, 1) := by decide +kernel
theorem dX3_clear_56 : decode cX3_clear 56 = .ok (.iconst 1, 1) := by decide +kernel
theorem dX3_clear_57 : decode cX3_clear 57 = .ok (.if_icmp .eq 34, 3) := by decide +kernel
theorem dX3_clear_60 : decode cX3_clear 60 = .ok (.iload_n 1, 1) := by decide +kernel
theorem dX3_clear_61 : decode cX3_clear 61 = .ok (.aload_n 0, 1) := by decide +kernel
theorem dX3_clear_62 : decode cX3_clear 62 = .ok (.getfield 32, 3) := by decide +kernel
theorem dX3_clear_65 : decode cX3_clear 65 = .ok (.iload_n 2, 1) := by decide +kernel
theorem dX3_clear_66 : decode cX3_clear 66 = .ok (.iaload, 1) := by decide +kernel
theorem dX3_clear_67 : decode cX3_clear 67 = .ok (.ifCond .ne 7, 3) := by decide +kernel
theorem dX3_clear_70 : decode cX3_clear 70 = .ok (.iconst 0, 1) := by decide +kernel
theorem dX3_clear_71 : decode cX3_clear 71 = .ok (.goto 4, 3) := by decide +kernel
theorem dX3_clear_74 : decode cX3_clear 74 = .ok (.iconst 1, 1) := by decide +kernel
theorem dX3_clear_75 : decode cX3_clear 75 = .ok (.iadd, 1) := by decide +kernel
theorem dX3_clear_76 : decode cX3_clear 76 = .ok (.istore_n 1, 1) := by decide +kernel
theorem dX3_clear_77 : decode cX3_clear 77 = .ok (.aload_n 0, 1) := by decide +kernel
theorem dX3_clear_78 : decode cX3_clear 78 = .ok (.getfield 32, 3) := by decide +kernel
theorem dX3_clear_81 : decode cX3_clear 81 = .ok (.iload_n 2, 1) := by decide +kernel
theorem dX3_clear_82 : decode cX3_clear 82 = .ok (.iconst 0, 1) := by decide +kernel
theorem dX3_clear_83 : decode cX3_clear 83 = .ok (.iastore, 1) := by decide +kernel
theorem dX3_clear_84 : decode cX3_clear 84 = .ok (.aload_n 0, 1) := by decide +kernel
theorem dX3_clear_85 : decode cX3_clear 85 = .ok (.getfield 66, 3) := by decide +kernel
theorem dX3_clear_88 : decode cX3_clear 88 = .ok (.iload_n 2, 1) := by decide +kernel
theorem dX3_clear_89 : decode cX3_clear 89 = .ok (.iconst 0, 1) := by decide +kernel
theorem dX3_clear_90 : decode cX3_clear 90 = .ok (.bastore, 1) := by decide +kernel
theorem dX3_clear_91 : decode cX3_clear 91 = .ok (.iinc 2 1, 3) := by decide +kernel
theorem dX3_clear_94 : decode cX3_clear 94 = .ok (.goto (-80), 3) := by decide +kernel
theorem dX3_clear_97 : decode cX3_clear 97 = .ok (.iload_n 1, 1) := by decide +kernel
theorem dX3_clear_98 : decode cX3_clear 98 = .ok (.ireturn, 1) := by decide +kernel
set_option maxRecDepth 20000 in
theorem ggX3_cause_X3_in : GoodIn wsX3_cause wsX3_in := goodIn_r _ [8] (by decide +kernel) (by decide +kernel)
set_option maxRecDepth 20000 in
theorem gX3_cause_X3_in : GoodIn wsX3_cause (va_wsS RX3 96 yX3_in wsX3_in) := goodIn_app (goodIn_of _ (by decide +kernel)) ggX3_cause_X3_in
theorem dX3_cause_0 : decode cX3_cause 0 = .ok (.iload_n 1, 1) := by decide +kernel
theorem dX3_cause_1 : decode cX3_cause 1 = .ok (.iconst 1, 1) := by decide +kernel
theorem dX3_cause_2 : decode cX3_cause 2 = .ok (.iconst 1, 1) := by decide +kernel
theorem dX3_cause_3 : decode cX3_cause 3 = .ok (.aload_n 0, 1) := by decide +kernel
theorem dX3_cause_4 : decode cX3_cause 4 = .ok (.getfield 93, 3) := by decide +kernel
theorem dX3_cause_7 : decode cX3_cause 7 = .ok (.ishl, 1) := by decide +kernel
theorem dX3_cause_8 : decode cX3_cause 8 = .ok (.iconst 1, 1) := by decide +kernel
theorem dX3_cause_9 : decode cX3_cause 9 = .ok (.isub, 1) := by decide +kernel
theorem dX3_cause_10 : decode cX3_cause 10 = .ok (.invokestatic 96, 3) := by decide +kernel
theorem dX3_cause_13 : decode cX3_cause 13 = .ok (.ifCond .eq 14, 3) := by decide +kernel
theorem dX3_cause_16 : decode cX3_cause 16 = .ok (.iload_n 2, 1) := by decide +kernel
theorem dX3_cause_17 : decode cX3_cause 17 = .ok (.iconst 1, 1) := by decide +kernel
theorem dX3_cause_18 : decode cX3_cause 18 = .ok (.sipush 1000, 3) := by decide +kernel
theorem dX3_cause_21 : decode cX3_cause 21 = .ok (.invokestatic 96, 3) := by decide +kernel
theorem dX3_cause_24 : decode cX3_cause 24 = .ok (.ifCond .ne 6, 3) := by decide +kernel
theorem dX3_cause_27 : decode cX3_cause 27 = .ok (.bipush (-2), 2) := by decide +kernel
theorem dX3_cause_29 : decode cX3_cause 29 = .ok (.ireturn, 1) := by decide +kernel
theorem dX3_cause_30 : decode cX3_cause 30 = .ok (.aload_n 0, 1) := by decide +kernel
theorem dX3_cause_31 : decode cX3_cause 31 = .ok (.getfield 141, 3) := by decide +kernel
theorem dX3_cause_34 : decode cX3_cause 34 = .ok (.bipush 10, 2) := by decide +kernel
theorem dX3_cause_36 : decode cX3_cause 36 = .ok (.if_icmp .ne 6, 3) := by decide +kernel
theorem dX3_cause_39 : decode cX3_cause 39 = .ok (.bipush (-4), 2) := by decide +kernel
theorem dX3_cause_41 : decode cX3_cause 41 = .ok (.ireturn, 1) := by decide +kernel
theorem dX3_cause_42 : decode cX3_cause 42 = .ok (.aload_n 0, 1) := by decide +kernel
theorem dX3_cause_43 : decode cX3_cause 43 = .ok (.getfield 78, 3) := by decide +kernel
theorem dX3_cause_46 : decode cX3_cause 46 = .ok (.aload_n 0, 1) := by decide +kernel
theorem dX3_cause_47 : decode cX3_cause 47 = .ok (.getfield 141, 3) := by decide +kernel
theorem dX3_cause_50 : decode cX3_cause 50 = .ok (.iload_n 1, 1) := by decide +kernel
theorem dX3_cause_51 : decode cX3_cause 51 = .ok (.iastore, 1) := by decide +kernel
theorem dX3_cause_52 : decode cX3_cause 52 = .ok (.aload_n 0, 1) := by decide +kernel
theorem dX3_cause_53 : decode cX3_cause 53 = .ok (.getfield 81, 3) := by decide +kernel
theorem dX3_cause_56 : decode cX3_cause 56 = .ok (.aload_n 0, 1) := by decide +kernel
theorem dX3_cause_57 : decode cX3_cause 57 = .ok (.getfield 141, 3) := by decide +kernel
theorem dX3_cause_60 : decode cX3_cause 60 = .ok (.iload_n 2, 1) := by decide +kernel
theorem dX3_cause_61 : decode cX3_cause 61 = .ok (.iastore, 1) := by decide +kernel
theorem dX3_cause_62 : decode cX3_cause 62 = .ok (.aload_n 0, 1) := by decide +kernel
theorem dX3_cause_63 : decode cX3_cause 63 = .ok (.dup, 1) := by decide +kernel
theorem dX3_cause_64 : decode cX3_cause 64 = .ok (.getfield 141, 3) := by decide +kernel
theorem dX3_cause_67 : decode cX3_cause 67 = .ok (.iconst 1, 1) := by decide +kernel
theorem dX3_cause_68 : decode cX3_cause 68 = .ok (.iadd, 1) := by decide +kernel
theorem dX3_cause_69 : decode cX3_cause 69 = .ok (.putfield 141, 3) := by decide +kernel
theorem dX3_cause_72 : decode cX3_cause 72 = .ok (.aload_n 0, 1) := by decide +kernel
theorem dX3_cause_73 : decode cX3_cause 73 = .ok (.getfield 141, 3) := by decide +kernel
theorem dX3_cause_76 : decode cX3_cause 76 = .ok (.iconst 1, 1) := by decide +kernel
theorem dX3_cause_77 : decode cX3_cause 77 = .ok (.isub, 1) := by decide +kernel
theorem dX3_cause_78 : decode cX3_cause 78 = .ok (.ireturn, 1) := by decide +kernel
theorem dX3_doesExplain_0 : decode cX3_doesExplain 0 = .ok (.iconst 0, 1) := by decide +kernel
theorem dX3_doesExplain_1 : decode cX3_doesExplain 1 = .ok (.istore_n 2, 1) := by decide +kernel
theorem dX3_doesExplain_2 : decode cX3_doesExplain 2 = .ok (.iconst 0, 1) := by decide +kernel
theorem dX3_doesExplain_3 : decode cX3_doesExplain 3 = .ok (.istore_n 3, 1) := by decide +kernel
theorem dX3_doesExplain_4 : decode cX3_doesExplain 4 = .ok (.iload_n 3, 1) := by decide +kernel
theorem dX3_doesExplain_5 : decode cX3_doesExplain 5 = .ok (.aload_n 0, 1) := by decide +kernel
theorem dX3_doesExplain_6 : decode cX3_doesExplain 6 = .ok (.getfield 141, 3) := by decide +kernel
theorem dX3_doesExplain_9 : decode cX3_doesExplain 9 = .ok (.if_icmp .ge 31, 3) := by decide +kernel
theorem dX3_doesExplain_12 : decode cX3_doesExplain 12 = .ok (.iload_n 2, 1) := by decide +kernel
theorem dX3_doesExplain_13 : decode cX3_doesExplain 13 = .ok (.iload_n 1, 1) := by decide +kernel
theorem dX3_doesExplain_14 : decode cX3_doesExplain 14 = .ok (.iload_n 3, 1) := by decide +kernel
theorem dX3_doesExplain_15 : decode cX3_doesExplain 15 = .ok (.ishr, 1) := by decide +kernel
theorem dX3_doesExplain_16 : decode cX3_doesExplain 16 = .ok (.iconst 1, 1) := by decide +kernel
theorem dX3_doesExplain_17 : decode cX3_doesExplain 17 = .ok (.iand, 1) := by decide +kernel
theorem dX3_doesExplain_18 : decode cX3_doesExplain 18 = .ok (.iconst 1, 1) := by decide +kernel
theorem dX3_doesExplain_19 : decode cX3_doesExplain 19 = .ok (.if_icmp .ne 12, 3) := by decide +kernel
theorem dX3_doesExplain_22 : decode cX3_doesExplain 22 = .ok (.aload_n 0, 1) := by decide +kernel
theorem dX3_doesExplain_23 : decode cX3_doesExplain 23 = .ok (.getfield 78, 3) := by decide +kernel
theorem dX3_doesExplain_26 : decode cX3_doesExplain 26 = .ok (.iload_n 3, 1) := by decide +kernel
theorem dX3_doesExplain_27 : decode cX3_doesExplain 27 = .ok (.iaload, 1) := by decide +kernel
theorem dX3_doesExplain_28 : decode cX3_doesExplain 28 = .ok (.goto 4, 3) := by decide +kernel
theorem dX3_doesExplain_31 : decode cX3_doesExplain 31 = .ok (.iconst 0, 1) := by decide +kernel
theorem dX3_doesExplain_32 : decode cX3_doesExplain 32 = .ok (.ior, 1) := by decide +kernel
theorem dX3_doesExplain_33 : decode cX3_doesExplain 33 = .ok (.istore_n 2, 1) := by decide +kernel
theorem dX3_doesExplain_34 : decode cX3_doesExplain 34 = .ok (.iinc 3 1, 3) := by decide +kernel
theorem dX3_doesExplain_37 : decode cX3_doesExplain 37 = .ok (.goto (-33), 3) := by decide +kernel
theorem dX3_doesExplain_40 : decode cX3_doesExplain 40 = .ok (.iconst 1, 1) := by decide +kernel
theorem dX3_doesExplain_41 : decode cX3_doesExplain 41 = .ok (.istore_n 3, 1) := by decide +kernel
theorem dX3_doesExplain_42 : decode cX3_doesExplain 42 = .ok (.iconst 0, 1) := by decide +kernel
theorem dX3_doesExplain_43 : decode cX3_doesExplain 43 = .ok (.istore 4, 2) := by decide +kernel
theorem dX3_doesExplain_45 : decode cX3_doesExplain 45 = .ok (.iload 4, 2) := by decide +kernel
theorem dX3_doesExplain_47 : decode cX3_doesExplain 47 = .ok (.aload_n 0, 1) := by decide +kernel
theorem dX3_doesExplain_48 : decode cX3_doesExplain 48 = .ok (.getfield 93, 3) := by decide +kernel
theorem dX3_doesExplain_51 : decode cX3_doesExplain 51 = .ok (.if_icmp .ge 63, 3) := by decide +kernel
theorem dX3_doesExplain_54 : decode cX3_doesExplain 54 = .ok (.iload_n 3, 1) := by decide +kernel
theorem dX3_doesExplain_55 : decode cX3_doesExplain 55 = .ok (.ifCond .eq 51, 3) := by decide +kernel
theorem dX3_doesExplain_58 : decode cX3_doesExplain 58 = .ok (.aload_n 0, 1) := by decide +kernel
theorem dX3_doesExplain_59 : decode cX3_doesExplain 59 = .ok (.getfield 44, 3) := by decide +kernel
theorem dX3_doesExplain_62 : decode cX3_doesExplain 62 = .ok (.iload 4, 2) := by decide +kernel
theorem dX3_doesExplain_64 : decode cX3_doesExplain 64 = .ok (.baload, 1) := by decide +kernel
theorem dX3_doesExplain_65 : decode cX3_doesExplain 65 = .ok (.ifCond .eq 37, 3) := by decide +kernel
theorem dX3_doesExplain_68 : decode cX3_doesExplain 68 = .ok (.aload_n 0, 1) := by decide +kernel
theorem dX3_doesExplain_69 : decode cX3_doesExplain 69 = .ok (.getfield 32, 3) := by decide +kernel
theorem dX3_doesExplain_72 : decode cX3_doesExplain 72 = .ok (.iload 4, 2) := by decide +kernel
theorem dX3_doesExplain_74 : decode cX3_doesExplain 74 = .ok (.iaload, 1) := by decide +kernel
theorem dX3_doesExplain_75 : decode cX3_doesExplain 75 = .ok (.iconst 2, 1) := by decide +kernel
theorem dX3_doesExplain_76 : decode cX3_doesExplain 76 = .ok (.if_icmp .ne 7, 3) := by decide +kernel
theorem dX3_doesExplain_79 : decode cX3_doesExplain 79 = .ok (.iconst 1, 1) := by decide +kernel
theorem dX3_doesExplain_80 : decode cX3_doesExplain 80 = .ok (.goto 4, 3) := by decide +kernel
theorem dX3_doesExplain_83 : decode cX3_doesExplain 83 = .ok (.iconst 0, 1) := by decide +kernel
theorem dX3_doesExplain_84 : decode cX3_doesExplain 84 = .ok (.iload_n 2, 1) := by decide +kernel
theorem dX3_doesExplain_85 : decode cX3_doesExplain 85 = .ok (.iload 4, 2) := by decide +kernel
theorem dX3_doesExplain_87 : decode cX3_doesExplain 87 = .ok (.ishr, 1) := by decide +kernel
theorem dX3_doesExplain_88 : decode cX3_doesExplain 88 = .ok (.iconst 1, 1) := by decide +kernel
theorem dX3_doesExplain_89 : decode cX3_doesExplain 89 = .ok (.iand, 1) := by decide +kernel
theorem dX3_doesExplain_90 : decode cX3_doesExplain 90 = .ok (.iconst 1, 1) := by decide +kernel
theorem dX3_doesExplain_91 : decode cX3_doesExplain 91 = .ok (.if_icmp .ne 7, 3) := by decide +kernel
theorem dX3_doesExplain_94 : decode cX3_doesExplain 94 = .ok (.iconst 1, 1) := by decide +kernel
theorem dX3_doesExplain_95 : decode cX3_doesExplain 95 = .ok (.goto 4, 3) := by decide +kernel
theorem dX3_doesExplain_98 : decode cX3_doesExplain 98 = .ok (.iconst 0, 1) := by decide +kernel
theorem dX3_doesExplain_99 : decode cX3_doesExplain 99 = .ok (.if_icmp .ne 7, 3) := by decide +kernel
