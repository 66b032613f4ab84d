theorem dX3_init_0 : decode cX3_init 0 = .ok (.aload_n 0, 1) := by decide +kernel
theorem dX3_init_1 : decode cX3_init 1 = .ok (.invokespecial 1, 3) := by decide +kernel
theorem dX3_init_4 : decode cX3_init 4 = .ok (.aload_n 0, 1) := by decide +kernel
theorem dX3_init_5 : decode cX3_init 5 = .ok (.bipush 16, 2) := by decide +kernel
theorem dX3_init_7 : decode cX3_init 7 = .ok (.newarray .int, 2) := by decide +kernel
theorem dX3_init_9 : decode cX3_init 9 = .ok (.putfield 7, 3) := by decide +kernel
theorem dX3_init_12 : decode cX3_init 12 = .ok (.aload_n 0, 1) := by decide +kernel
theorem dX3_init_13 : decode cX3_init 13 = .ok (.bipush 16, 2) := by decide +kernel
theorem dX3_init_15 : decode cX3_init 15 = .ok (.newarray .int, 2) := by decide +kernel
theorem dX3_init_17 : decode cX3_init 17 = .ok (.putfield 13, 3) := by decide +kernel
theorem dX3_init_20 : decode cX3_init 20 = .ok (.aload_n 0, 1) := by decide +kernel
theorem dX3_init_21 : decode cX3_init 21 = .ok (.bipush 16, 2) := by decide +kernel
theorem dX3_init_23 : decode cX3_init 23 = .ok (.newarray .int, 2) := by decide +kernel
theorem dX3_init_25 : decode cX3_init 25 = .ok (.putfield 16, 3) := by decide +kernel
theorem dX3_init_28 : decode cX3_init 28 = .ok (.aload_n 0, 1) := by decide +kernel
theorem dX3_init_29 : decode cX3_init 29 = .ok (.bipush 16, 2) := by decide +kernel
theorem dX3_init_31 : decode cX3_init 31 = .ok (.newarray .int, 2) := by decide +kernel
theorem dX3_init_33 : decode cX3_init 33 = .ok (.putfield 19, 3) := by decide +kernel
theorem dX3_init_36 : decode cX3_init 36 = .ok (.aload_n 0, 1) := by decide +kernel
theorem dX3_init_37 : decode cX3_init 37 = .ok (.bipush 16, 2) := by decide +kernel
theorem dX3_init_39 : decode cX3_init 39 = .ok (.newarray .int, 2) := by decide +kernel
theorem dX3_init_41 : decode cX3_init 41 = .ok (.putfield 22, 3) := by decide +kernel
theorem dX3_init_44 : decode cX3_init 44 = .ok (.aload_n 0, 1) := by decide +kernel
theorem dX3_init_45 : decode cX3_init 45 = .ok (.bipush 16, 2) := by decide +kernel
theorem dX3_init_47 : decode cX3_init 47 = .ok (.newarray .int, 2) := by decide +kernel
theorem dX3_init_49 : decode cX3_init 49 = .ok (.putfield 25, 3) := by decide +kernel
theorem dX3_init_52 : decode cX3_init 52 = .ok (.aload_n 0, 1) := by decide +kernel
theorem dX3_init_53 : decode cX3_init 53 = .ok (.bipush 16, 2) := by decide +kernel
theorem dX3_init_55 : decode cX3_init 55 = .ok (.newarray .boolean, 2) := by decide +kernel
theorem dX3_init_57 : decode cX3_init 57 = .ok (.putfield 28, 3) := by decide +kernel
theorem dX3_init_60 : decode cX3_init 60 = .ok (.aload_n 0, 1) := by decide +kernel
theorem dX3_init_61 : decode cX3_init 61 = .ok (.bipush 16, 2) := by decide +kernel
theorem dX3_init_63 : decode cX3_init 63 = .ok (.newarray .int, 2) := by decide +kernel
theorem dX3_init_65 : decode cX3_init 65 = .ok (.putfield 32, 3) := by decide +kernel
theorem dX3_init_68 : decode cX3_init 68 = .ok (.aload_n 0, 1) := by decide +kernel
theorem dX3_init_69 : decode cX3_init 69 = .ok (.bipush 16, 2) := by decide +kernel
theorem dX3_init_71 : decode cX3_init 71 = .ok (.newarray .int, 2) := by decide +kernel
theorem dX3_init_73 : decode cX3_init 73 = .ok (.putfield 35, 3) := by decide +kernel
theorem dX3_init_76 : decode cX3_init 76 = .ok (.aload_n 0, 1) := by decide +kernel
theorem dX3_init_77 : decode cX3_init 77 = .ok (.bipush 16, 2) := by decide +kernel
theorem dX3_init_79 : decode cX3_init 79 = .ok (.newarray .int, 2) := by decide +kernel
theorem dX3_init_81 : decode cX3_init 81 = .ok (.putfield 38, 3) := by decide +kernel
theorem dX3_init_84 : decode cX3_init 84 = .ok (.aload_n 0, 1) := by decide +kernel
theorem dX3_init_85 : decode cX3_init 85 = .ok (.bipush 16, 2) := by decide +kernel
theorem dX3_init_87 : decode cX3_init 87 = .ok (.newarray .int, 2) := by decide +kernel
theorem dX3_init_89 : decode cX3_init 89 = .ok (.putfield 41, 3) := by decide +kernel
theorem dX3_init_92 : decode cX3_init 92 = .ok (.aload_n 0, 1) := by decide +kernel
theorem dX3_init_93 : decode cX3_init 93 = .ok (.bipush 16, 2) := by decide +kernel
theorem dX3_init_95 : decode cX3_init 95 = .ok (.newarray .boolean, 2) := by decide +kernel
theorem dX3_init_97 : decode cX3_init 97 = .ok (.putfield 44, 3) := by decide +kernel
theorem dX3_init_100 : decode cX3_init 100 = .ok (.aload_n 0, 1) := by decide +kernel
theorem dX3_init_101 : decode cX3_init 101 = .ok (.bipush 16, 2) := by decide +kernel
theorem dX3_init_103 : decode cX3_init 103 = .ok (.newarray .int, 2) := by decide +kernel
theorem dX3_init_105 : decode cX3_init 105 = .ok (.putfield 47, 3) := by decide +kernel
theorem dX3_init_108 : decode cX3_init 108 = .ok (.aload_n 0, 1) := by decide +kernel
theorem dX3_init_109 : decode cX3_init 109 = .ok (.bipush 16, 2) := by decide +kernel
theorem dX3_init_111 : decode cX3_init 111 = .ok (.newarray .int, 2) := by decide +kernel
theorem dX3_init_113 : decode cX3_init 113 = .ok (.putfield 50, 3) := by decide +kernel
theorem dX3_init_116 : decode cX3_init 116 = .ok (.aload_n 0, 1) := by decide +kernel
theorem dX3_init_117 : decode cX3_init 117 = .ok (.bipush 16, 2) := by decide +kernel
theorem dX3_init_119 : decode cX3_init 119 = .ok (.newarray .int, 2) := by decide +kernel
theorem dX3_init_121 : decode cX3_init 121 = .ok (.putfield 53, 3) := by decide +kernel
theorem dX3_init_124 : decode cX3_init 124 = .ok (.aload_n 0, 1) := by decide +kernel
theorem dX3_init_125 : decode cX3_init 125 = .ok (.sipush 256, 3) := by decide +kernel
theorem dX3_init_128 : decode cX3_init 128 = .ok (.newarray .int, 2) := by decide +kernel
theorem dX3_init_130 : decode cX3_init 130 = .ok (.putfield 56, 3) := by decide +kernel
theorem dX3_init_133 : decode cX3_init 133 = .ok (.aload_n 0, 1) := by decide +kernel
theorem dX3_init_134 : decode cX3_init 134 = .ok (.iconst 4, 1) := by decide +kernel
theorem dX3_init_135 : decode cX3_init 135 = .ok (.newarray .int, 2) := by decide +kernel
theorem dX3_init_137 : decode cX3_init 137 = .ok (.putfield 59, 3) := by decide +kernel
theorem dX3_init_140 : decode cX3_init 140 = .ok (.aload_n 0, 1) := by decide +kernel
theorem dX3_init_141 : decode cX3_init 141 = .ok (.bipush 8, 2) := by decide +kernel
theorem dX3_init_143 : decode cX3_init 143 = .ok (.putfield 62, 3) := by decide +kernel
theorem dX3_init_146 : decode cX3_init 146 = .ok (.aload_n 0, 1) := by decide +kernel
theorem dX3_init_147 : decode cX3_init 147 = .ok (.bipush 16, 2) := by decide +kernel
theorem dX3_init_149 : decode cX3_init 149 = .ok (.newarray .boolean, 2) := by decide +kernel
theorem dX3_init_151 : decode cX3_init 151 = .ok (.putfield 66, 3) := by decide +kernel
theorem dX3_init_154 : decode cX3_init 154 = .ok (.aload_n 0, 1) := by decide +kernel
theorem dX3_init_155 : decode cX3_init 155 = .ok (.bipush 64, 2) := by decide +kernel
theorem dX3_init_157 : decode cX3_init 157 = .ok (.newarray .int, 2) := by decide +kernel
theorem dX3_init_159 : decode cX3_init 159 = .ok (.putfield 69, 3) := by decide +kernel
theorem dX3_init_162 : decode cX3_init 162 = .ok (.aload_n 0, 1) := by decide +kernel
theorem dX3_init_163 : decode cX3_init 163 = .ok (.bipush 16, 2) := by decide +kernel
theorem dX3_init_165 : decode cX3_init 165 = .ok (.newarray .int, 2) := by decide +kernel
theorem dX3_init_167 : decode cX3_init 167 = .ok (.putfield 72, 3) := by decide +kernel
theorem dX3_init_170 : decode cX3_init 170 = .ok (.aload_n 0, 1) := by decide +kernel
theorem dX3_init_171 : decode cX3_init 171 = .ok (.bipush 16, 2) := by decide +kernel
theorem dX3_init_173 : decode cX3_init 173 = .ok (.newarray .int, 2) := by decide +kernel
theorem dX3_init_175 : decode cX3_init 175 = .ok (.putfield 75, 3) := by decide +kernel
theorem dX3_init_178 : decode cX3_init 178 = .ok (.aload_n 0, 1) := by decide +kernel
theorem dX3_init_179 : decode cX3_init 179 = .ok (.bipush 10, 2) := by decide +kernel
theorem dX3_init_181 : decode cX3_init 181 = .ok (.newarray .int, 2) := by decide +kernel
theorem dX3_init_183 : decode cX3_init 183 = .ok (.putfield 78, 3) := by decide +kernel
theorem dX3_init_186 : decode cX3_init 186 = .ok (.aload_n 0, 1) := by decide +kernel
theorem dX3_init_187 : decode cX3_init 187 = .ok (.bipush 10, 2) := by decide +kernel
theorem dX3_init_189 : decode cX3_init 189 = .ok (.newarray .int, 2) := by decide +kernel
theorem dX3_init_191 : decode cX3_init 191 = .ok (.putfield 81, 3) := by decide +kernel
theorem dX3_init_194 : decode cX3_init 194 = .ok (.aload_n 0, 1) := by decide +kernel
theorem dX3_init_195 : decode cX3_init 195 = .ok (.bipush 10, 2) := by decide +kernel
theorem dX3_init_197 : decode cX3_init 197 = .ok (.newarray .int, 2) := by decide +kernel
theorem dX3_init_199 : decode cX3_init 199 = .ok (.putfield 84, 3) := by decide +kernel
theorem dX3_init_202 : decode cX3_init 202 = .ok (.aload_n 0, 1) := by decide +kernel
theorem dX3_init_203 : decode cX3_init 203 = .ok (.sipush 1024, 3) := by decide +kernel
theorem dX3_init_206 : decode cX3_init 206 = .ok (.newarray .int, 2) := by decide +kernel
theorem dX3_init_208 : decode cX3_init 208 = .ok (.putfield 87, 3) := by decide +kernel
theorem dX3_init_211 : decode cX3_init 211 = .ok (.aload_n 0, 1) := by decide +kernel
theorem dX3_init_212 : decode cX3_init 212 = .ok (.sipush 1024, 3) := by decide +kernel
theorem dX3_init_215 : decode cX3_init 215 = .ok (.newarray .int, 2) := by decide +kernel
theorem dX3_init_217 : decode cX3_init 217 = .ok (.putfield 90, 3) := by decide +kernel
theorem dX3_init_220 : decode cX3_init 220 = .ok (.return_, 1) := by decide +kernel
theorem dX3_in_0 : decode cX3_in 0 = .ok (.iload_n 0, 1) := by decide +kernel
theorem dX3_in_1 : decode cX3_in 1 = .ok (.iload_n 1, 1) := by decide +kernel
theorem dX3_in_2 : decode cX3_in 2 = .ok (.if_icmp .lt 12, 3) := by decide +kernel
theorem dX3_in_5 : decode cX3_in 5 = .ok (.iload_n 0, 1) := by decide +kernel
theorem dX3_in_6 : decode cX3_in 6 = .ok (.iload_n 2, 1) := by decide +kernel
theorem dX3_in_7 : decode cX3_in 7 = .ok (.if_icmp .gt 7, 3) := by decide +kernel
theorem dX3_in_10 : decode cX3_in 10 = .ok (.iconst 1, 1) := by decide +kernel
theorem dX3_in_11 : decode cX3_in 11 = .ok (.goto 4, 3) := by decide +kernel
theorem dX3_in_14 : decode cX3_in 14 = .ok (.iconst 0, 1) := by decide +kernel
theorem dX3_in_15 : decode cX3_in 15 = .ok (.ireturn, 1) := by decide +kernel
set_option maxRecDepth 20000 in
theorem ggX3_isCheck_X3_in : GoodIn wsX3_isCheck wsX3_in := goodIn_r _ [5] (by decide +kernel) (by decide +kernel)
set_option maxRecDepth 20000 in
theorem gX3_isCheck_X3_in : GoodIn wsX3_isCheck (va_wsS RX3 96 yX3_in wsX3_in) := goodIn_app (goodIn_of _ (by decide +kernel)) ggX3_isCheck_X3_in
theorem dX3_isCheck_0 : decode cX3_isCheck 0 = .ok (.iload_n 1, 1) := by decide +kernel
theorem dX3_isCheck_1 : decode cX3_isCheck 1 = .ok (.iconst 0, 1) := by decide +kernel
theorem dX3_isCheck_2 : decode cX3_isCheck 2 = .ok (.aload_n 0, 1) := by decide +kernel
theorem dX3_isCheck_3 : decode cX3_isCheck 3 = .ok (.getfield 93, 3) := by decide +kernel
theorem dX3_isCheck_6 : decode cX3_isCheck 6 = .ok (.iconst 1, 1) := by decide +kernel
theorem dX3_isCheck_7 : decode cX3_isCheck 7 = .ok (.isub, 1) := by decide +kernel
theorem dX3_isCheck_8 : decode cX3_isCheck 8 = .ok (.invokestatic 96, 3) := by decide +kernel
theorem dX3_isCheck_11 : decode cX3_isCheck 11 = .ok (.ireturn, 1) := by decide +kernel
set_option maxRecDepth 20000 in
theorem ggX3_check_X3_in : GoodIn wsX3_check wsX3_in := goodIn_r _ [13] (by decide +kernel) (by decide +kernel)
set_option maxRecDepth 20000 in
theorem gX3_check_X3_in : GoodIn wsX3_check (va_wsS RX3 96 yX3_in wsX3_in) := goodIn_app (goodIn_of _ (by decide +kernel)) ggX3_check_X3_in
set_option maxRecDepth 20000 in
theorem ggX3_check_X3_isCheck : GoodIn wsX3_check wsX3_isCheck := goodIn_r _ [17, 2, 10, 11, 12, 13, 18, 19, 20, 21, 22, 23, 24, 25, 26, 27, 28, 29, 30, 31, 32, 33, 34, 35, 36, 37, 38, 39, 40, 41, 42, 43, 44, 45, 46, 47, 48, 49, 50] (by decide +kernel) (by decide +kernel)
set_option maxRecDepth 20000 in
theorem gX3_check_X3_isCheck : GoodIn wsX3_check (wsV RX3 100 RX3 yX3_isCheck wsX3_isCheck) := goodIn_app (goodIn_of _ (by decide +kernel)) ggX3_check_X3_isCheck
theorem dX3_check_0 : decode cX3_check 0 = .ok (.iload_n 1, 1) := by decide +kernel
theorem dX3_check_1 : decode cX3_check 1 = .ok (.iconst 0, 1) := by decide +kernel
theorem dX3_check_2 : decode cX3_check 2 = .ok (.iconst 2, 1) := by decide +kernel
theorem dX3_check_3 : decode cX3_check 3 = .ok (.invokestatic 96, 3) := by decide +kernel
theorem dX3_check_6 : decode cX3_check 6 = .ok (.ifCond .eq 59, 3) := by decide +kernel
theorem dX3_check_9 : decode cX3_check 9 = .ok (.iload_n 1, 1) := by decide +kernel
theorem dX3_check_10 : decode cX3_check 10 = .ok (.iconst 2, 1) := by decide +kernel
theorem dX3_check_11 : decode cX3_check 11 = .ok (.if_icmp .ne 11, 3) := by decide +kernel
theorem dX3_check_14 : decode cX3_check 14 = .ok (.aload_n 0, 1) := by decide +kernel
theorem dX3_check_15 : decode cX3_check 15 = .ok (.iload_n 2, 1) := by decide +kernel
theorem dX3_check_16 : decode cX3_check 16 = .ok (.invokevirtual 100, 3) := by decide +kernel
theorem dX3_check_19 : decode cX3_check 19 = .ok (.ifCond .eq 46, 3) := by decide +kernel
theorem dX3_check_22 : decode cX3_check 22 = .ok (.iload_n 3, 1) := by decide +kernel
theorem dX3_check_23 : decode cX3_check 23 = .ok (.iconst 1, 1) := by decide +kernel
theorem dX3_check_24 : decode cX3_check 24 = .ok (.bipush 9, 2) := by decide +kernel
theorem dX3_check_26 : decode cX3_check 26 = .ok (.invokestatic 96, 3) := by decide +kernel
theorem dX3_check_29 : decode cX3_check 29 = .ok (.ifCond .eq 36, 3) := by decide +kernel
theorem dX3_check_32 : decode cX3_check 32 = .ok (.iload 4, 2) := by decide +kernel
theorem dX3_check_34 : decode cX3_check 34 = .ok (.iconst 1, 1) := by decide +kernel
theorem dX3_check_35 : decode cX3_check 35 = .ok (.bipush 9, 2) := by decide +kernel
theorem dX3_check_37 : decode cX3_check 37 = .ok (.invokestatic 96, 3) := by decide +kernel
theorem dX3_check_40 : decode cX3_check 40 = .ok (.ifCond .eq 25, 3) := by decide +kernel
theorem dX3_check_43 : decode cX3_check 43 = .ok (.iload 5, 2) := by decide +kernel
theorem dX3_check_45 : decode cX3_check 45 = .ok (.iconst 1, 1) := by decide +kernel
theorem dX3_check_46 : decode cX3_check 46 = .ok (.bipush 90, 2) := by decide +kernel
theorem dX3_check_48 : decode cX3_check 48 = .ok (.invokestatic 96, 3) := by decide +kernel
theorem dX3_check_51 : decode cX3_check 51 = .ok (.ifCond .eq 14, 3) := by decide +kernel
theorem dX3_check_54 : decode cX3_check 54 = .ok (.iload 6, 2) := by decide +kernel
theorem dX3_check_56 : decode cX3_check 56 = .ok (.iconst 0, 1) := by decide +kernel
theorem dX3_check_57 : decode cX3_check 57 = .ok (.bipush 9, 2) := by decide +kernel
theorem dX3_check_59 : decode cX3_check 59 = .ok (.invokestatic 96, 3) := by decide +kernel
theorem dX3_check_62 : decode cX3_check 62 = .ok (.ifCond .ne 6, 3) := by decide +kernel
theorem dX3_check_65 : decode cX3_check 65 = .ok (.bipush (-2), 2) := by decide +kernel
theorem dX3_check_67 : decode cX3_check 67 = .ok (.ireturn, 1) := by decide +kernel
theorem dX3_check_68 : decode cX3_check 68 = .ok (.aload_n 0, 1) := by decide +kernel
theorem dX3_check_69 : decode cX3_check 69 = .ok (.getfield 104, 3) := by decide +kernel
theorem dX3_check_72 : decode cX3_check 72 = .ok (.ifCond .eq 6, 3) := by decide +kernel
theorem dX3_check_75 : decode cX3_check 75 = .ok (.bipush (-3), 2) := by decide +kernel
theorem dX3_check_77 : decode cX3_check 77 = .ok (.ireturn, 1) := by decide +kernel
theorem dX3_check_78 : decode cX3_check 78 = .ok (.aload_n 0, 1) := by decide +kernel
theorem dX3_check_79 : decode cX3_check 79 = .ok (.getfield 93, 3) := by decide +kernel
theorem dX3_check_82 : decode cX3_check 82 = .ok (.bipush 16, 2) := by decide +kernel
theorem dX3_check_84 : decode cX3_check 84 = .ok (.if_icmp .ne 6, 3) := by decide +kernel
theorem dX3_check_87 : decode cX3_check 87 = .ok (.bipush (-4), 2) := by decide +kernel
theorem dX3_check_89 : decode cX3_check 89 = .ok (.ireturn, 1) := by decide +kernel
theorem dX3_check_90 : decode cX3_check 90 = .ok (.aload_n 0, 1) := by decide +kernel
theorem dX3_check_91 : decode cX3_check 91 = .ok (.getfield 7, 3) := by decide +kernel
theorem dX3_check_94 : decode cX3_check 94 = .ok (.aload_n 0, 1) := by decide +kernel
theorem dX3_check_95 : decode cX3_check 95 = .ok (.getfield 93, 3) := by decide +kernel
theorem dX3_check_98 : decode cX3_check 98 = .ok (.iload_n 1, 1) := by decide +kernel
theorem dX3_check_99 : decode cX3_check 99 = .ok (.iastore, 1) := by decide +kernel
theorem dX3_check_100 : decode cX3_check 100 = .ok (.aload_n 0, 1) := by decide +kernel
theorem dX3_check_101 : decode cX3_check 101 = .ok (.getfield 13, 3) := by decide +kernel
theorem dX3_check_104 : decode cX3_check 104 = .ok (.aload_n 0, 1) := by decide +kernel
theorem dX3_check_105 : decode cX3_check 105 = .ok (.getfield 93, 3) := by decide +kernel
theorem dX3_check_108 : decode cX3_check 108 = .ok (.iload_n 2, 1) := by decide +kernel
theorem dX3_check_109 : decode cX3_check 109 = .ok (.iastore, 1) := by decide +kernel
theorem dX3_check_110 : decode cX3_check 110 = .ok (.aload_n 0, 1) := by decide +kernel
theorem dX3_check_111 : decode cX3_check 111 = .ok (.getfield 16, 3) := by decide +kernel
theorem dX3_check_114 : decode cX3_check 114 = .ok (.aload_n 0, 1) := by decide +kernel
theorem dX3_check_115 : decode cX3_check 115 = .ok (.getfield 93, 3) := by decide +kernel
theorem dX3_check_118 : decode cX3_check 118 = .ok (.iload_n 3, 1) := by decide +kernel
theorem dX3_check_119 : decode cX3_check 119 = .ok (.iastore, 1) := by decide +kernel
theorem dX3_check_120 : decode cX3_check 120 = .ok (.aload_n 0, 1) := by decide +kernel
theorem dX3_check_121 : decode cX3_check 121 = .ok (.getfield 19, 3) := by decide +kernel
theorem dX3_check_124 : decode cX3_check 124 = .ok (.aload_n 0, 1) := by decide +kernel
theorem dX3_check_125 : decode cX3_check 125 = .ok (.getfield 93, 3) := by decide +kernel
theorem dX3_check_128 : decode cX3_check 128 = .ok (.iload 4, 2) := by decide +kernel
theorem dX3_check_130 : decode cX3_check 130 = .ok (.iastore, 1) := by decide +kernel
theorem dX3_check_131 : decode cX3_check 131 = .ok (.aload_n 0, 1) := by decide +kernel
theorem dX3_check_132 : decode cX3_check 132 = .ok (.getfield 22, 3) := by decide +kernel
theorem dX3_check_135 : decode cX3_check 135 = .ok (.aload_n 0, 1) := by decide +kernel
theorem dX3_check_136 : decode cX3_check 136 = .ok (.getfield 93, 3) := by decide +kernel
theorem dX3_check_139 : decode cX3_check 139 = .ok (.iload 5, 2) := by decide +kernel
theorem dX3_check_141 : decode cX3_check 141 = .ok (.iastore, 1) := by decide +kernel
theorem dX3_check_142 : decode cX3_check 142 = .ok (.aload_n 0, 1) := by decide +kernel
theorem dX3_check_143 : decode cX3_check 143 = .ok (.getfield 25, 3) := by decide +kernel
theorem dX3_check_146 : decode cX3_check 146 = .ok (.aload_n 0, 1) := by decide +kernel
theorem dX3_check_147 : decode cX3_check 147 = .ok (.getfield 93, 3) := by decide +kernel
theorem dX3_check_150 : decode cX3_check 150 = .ok (.iload 6, 2) := by decide +kernel
theorem dX3_check_152 : decode cX3_check 152 = .ok (.iastore, 1) := by decide +kernel
theorem dX3_check_153 : decode cX3_check 153 = .ok (.aload_n 0, 1) := by decide +kernel
theorem dX3_check_154 : decode cX3_check 154 = .ok (.getfield 28, 3) := by decide +kernel
theorem dX3_check_157 : decode cX3_check 157 = .ok (.aload_n 0, 1) := by decide +kernel
theorem dX3_check_158 : decode cX3_check 158 = .ok (.getfield 93, 3) := by decide +kernel
theorem dX3_check_161 : decode cX3_check 161 = .ok (.iload 7, 2) := by decide +kernel
theorem dX3_check_163 : decode cX3_check 163 = .ok (.bastore, 1) := by decide +kernel
theorem dX3_check_164 : decode cX3_check 164 = .ok (.aload_n 0, 1) := by decide +kernel
theorem dX3_check_165 : decode cX3_check 165 = .ok (.dup, 1) := by decide +kernel
theorem dX3_check_166 : decode cX3_check 166 = .ok (.getfield 93, 3) := by decide +kernel
theorem dX3_check_169 : decode cX3_check 169 = .ok (.iconst 1, 1) := by decide +kernel
theorem dX3_check_170 : decode cX3_check 170 = .ok (.iadd, 1) := by decide +kernel
theorem dX3_check_171 : decode cX3_check 171 = .ok (.putfield 93, 3) := by decide +kernel
theorem dX3_check_174 : decode cX3_check 174 = .ok (.aload_n 0, 1) := by decide +kernel
theorem dX3_check_175 : decode cX3_check 175 = .ok (.getfield 93, 3) := by decide +kernel
theorem dX3_check_178 : decode cX3_check 178 = .ok (.iconst 1, 1) := by decide +kernel
theorem dX3_check_179 : decode cX3_check 179 = .ok (.isub, 1) := by decide +kernel
theorem dX3_check_180 : decode cX3_check 180 = .ok (.ireturn, 1) := by decide +kernel
theorem dX3_begin_0 : decode cX3_begin 0 = .ok (.aload_n 0, 1) := by decide +kernel
theorem dX3_begin_1 : decode cX3_begin 1 = .ok (.getfield 104, 3) := by decide +kernel
theorem dX3_begin_4 : decode cX3_begin 4 = .ok (.ifCond .eq 6, 3) := by decide +kernel
theorem dX3_begin_7 : decode cX3_begin 7 = .ok (.bipush (-3), 2) := by decide +kernel
theorem dX3_begin_9 : decode cX3_begin 9 = .ok (.ireturn, 1) := by decide +kernel
theorem dX3_begin_10 : decode cX3_begin 10 = .ok (.aload_n 0, 1) := by decide +kernel
theorem dX3_begin_11 : decode cX3_begin 11 = .ok (.iconst 1, 1) := by decide +kernel
theorem dX3_begin_12 : decode cX3_begin 12 = .ok (.putfield 104, 3) := by decide +kernel
theorem dX3_begin_15 : decode cX3_begin 15 = .ok (.iconst 0, 1) := by decide +kernel
theorem dX3_begin_16 : decode cX3_begin 16 = .ok (.istore_n 1, 1) := by decide +kernel
theorem dX3_begin_17 : decode cX3_begin 17 = .ok (.iload_n 1, 1) := by decide +kernel
theorem dX3_begin_18 : decode cX3_begin 18 = .ok (.aload_n 0, 1) := by decide +kernel
theorem dX3_begin_19 : decode cX3_begin 19 = .ok (.getfield 93, 3) := by decide +kernel
theorem dX3_begin_22 : decode cX3_begin 22 = .ok (.if_icmp .ge 28, 3) := by decide +kernel
theorem dX3_begin_25 : decode cX3_begin 25 = .ok (.aload_n 0, 1) := by decide +kernel
theorem dX3_begin_26 : decode cX3_begin 26 = .ok (.getfield 47, 3) := by decide +kernel
theorem dX3_begin_29 : decode cX3_begin 29 = .ok (.iload_n 1, 1) := by decide +kernel
theorem dX3_begin_30 : decode cX3_begin 30 = .ok (.aload_n 0, 1) := by decide +kernel
theorem dX3_begin_31 : decode cX3_begin 31 = .ok (.getfield 32, 3) := by decide +kernel
theorem dX3_begin_34 : decode cX3_begin 34 = .ok (.iload_n 1, 1) := by decide +kernel
theorem dX3_begin_35 : decode cX3_begin 35 = .ok (.iaload, 1) := by decide +kernel
theorem dX3_begin_36 : decode cX3_begin 36 = .ok (.iastore, 1) := by decide +kernel
theorem dX3_begin_37 : decode cX3_begin 37 = .ok (.aload_n 0, 1) := by decide +kernel
theorem dX3_begin_38 : decode cX3_begin 38 = .ok (.getfield 50, 3) := by decide +kernel
theorem dX3_begin_41 : decode cX3_begin 41 = .ok (.iload_n 1, 1) := by decide +kernel
theorem dX3_begin_42 : decode cX3_begin 42 = .ok (.iconst 0, 1) := by decide +kernel
theorem dX3_begin_43 : decode cX3_begin 43 = .ok (.iastore, 1) := by decide +kernel
theorem dX3_begin_44 : decode cX3_begin 44 = .ok (.iinc 1 1, 3) := by decide +kernel
theorem dX3_begin_47 : decode cX3_begin 47 = .ok (.goto (-30), 3) := by decide +kernel
theorem dX3_begin_50 : decode cX3_begin 50 = .ok (.aload_n 0, 1) := by decide +kernel
theorem dX3_begin_51 : decode cX3_begin 51 = .ok (.getfield 108, 3) := by decide +kernel
theorem dX3_begin_54 : decode cX3_begin 54 = .ok (.ireturn, 1) := by decide +kernel
set_option maxRecDepth 20000 in
theorem ggX3_ran_X3_isCheck : GoodIn wsX3_ran wsX3_isCheck := goodIn_r _ [7, 8, 9, 10, 6, 11, 12, 13, 14, 15, 16, 17, 18, 19, 20, 21, 22, 23, 24, 25, 26, 27, 28, 29, 30, 31, 32, 33, 34, 35, 36, 37, 38, 39, 40, 41, 42, 43, 44] (by decide +kernel) (by decide +kernel)
set_option maxRecDepth 20000 in
theorem gX3_ran_X3_isCheck : GoodIn wsX3_ran (wsV RX3 100 RX3 yX3_isCheck wsX3_isCheck) := goodIn_app (goodIn_of _ (by decide +kernel)) ggX3_ran_X3_isCheck
theorem dX3_ran_0 : decode cX3_ran 0 = .ok (.aload_n 0, 1) := by decide +kernel
theorem dX3_ran_1 : decode cX3_ran 1 = .ok (.iload_n 1, 1) := by decide +kernel
theorem dX3_ran_2 : decode cX3_ran 2 = .ok (.invokevirtual 100, 3) := by decide +kernel
theorem dX3_ran_5 : decode cX3_ran 5 = .ok (.ifCond .ne 6, 3) := by decide +kernel
theorem dX3_ran_8 : decode cX3_ran 8 = .ok (.bipush (-2), 2) := by decide +kernel
theorem dX3_ran_10 : decode cX3_ran 10 = .ok (.ireturn, 1) := by decide +kernel
theorem dX3_ran_11 : decode cX3_ran 11 = .ok (.aload_n 0, 1) := by decide +kernel
theorem dX3_ran_12 : decode cX3_ran 12 = .ok (.getfield 104, 3) := by decide +kernel
theorem dX3_ran_15 : decode cX3_ran 15 = .ok (.ifCond .ne 6, 3) := by decide +kernel
theorem dX3_ran_18 : decode cX3_ran 18 = .ok (.bipush (-3), 2) := by decide +kernel
theorem dX3_ran_20 : decode cX3_ran 20 = .ok (.ireturn, 1) := by decide +kernel
theorem dX3_ran_21 : decode cX3_ran 21 = .ok (.aload_n 0, 1) := by decide +kernel
theorem dX3_ran_22 : decode cX3_ran 22 = .ok (.getfield 50, 3) := by decide +kernel
theorem dX3_ran_25 : decode cX3_ran 25 = .ok (.iload_n 1, 1) := by decide +kernel
theorem dX3_ran_26 : decode cX3_ran 26 = .ok (.iload_n 2, 1) := by decide +kernel
theorem dX3_ran_27 : decode cX3_ran 27 = .ok (.ifCond .eq 7, 3) := by decide +kernel
theorem dX3_ran_30 : decode cX3_ran 30 = .ok (.iconst 2, 1) := by decide +kernel
theorem dX3_ran_31 : decode cX3_ran 31 = .ok (.goto 18, 3) := by decide +kernel
theorem dX3_ran_34 : decode cX3_ran 34 = .ok (.aload_n 0, 1) := by decide +kernel
theorem dX3_ran_35 : decode cX3_ran 35 = .ok (.getfield 50, 3) := by decide +kernel
theorem dX3_ran_38 : decode cX3_ran 38 = .ok (.iload_n 1, 1) := by decide +kernel
theorem dX3_ran_39 : decode cX3_ran 39 = .ok (.iaload, 1) := by decide +kernel
theorem dX3_ran_40 : decode cX3_ran 40 = .ok (.iconst 2, 1) := by decide +kernel
theorem dX3_ran_41 : decode cX3_ran 41 = .ok (.if_icmp .ne 7, 3) := by decide +kernel
theorem dX3_ran_44 : decode cX3_ran 44 = .ok (.iconst 2, 1) := by decide +kernel
theorem dX3_ran_45 : decode cX3_ran 45 = .ok (.goto 4, 3) := by decide +kernel
theorem dX3_ran_48 : decode cX3_ran 48 = .ok (.iconst 1, 1) := by decide +kernel
theorem dX3_ran_49 : decode cX3_ran 49 = .ok (.iastore, 1) := by decide +kernel
theorem dX3_ran_50 : decode cX3_ran 50 = .ok (.iconst 1, 1) := by decide +kernel
theorem dX3_ran_51 : decode cX3_ran 51 = .ok (.ireturn, 1) := by decide +kernel
theorem dX3_isHeld_0 : decode cX3_isHeld 0 = .ok (.aload_n 0, 1) := by decide +kernel
theorem dX3_isHeld_1 : decode cX3_isHeld 1 = .ok (.getfield 7, 3) := by decide +kernel
theorem dX3_isHeld_4 : decode cX3_isHeld 4 = .ok (.iload_n 1, 1) := by decide +kernel
theorem dX3_isHeld_5 : decode cX3_isHeld 5 = .ok (.iaload, 1) := by decide +kernel
theorem dX3_isHeld_6 : decode cX3_isHeld 6 = .ok (.iconst 2, 1) := by decide +kernel
theorem dX3_isHeld_7 : decode cX3_isHeld 7 = .ok (.if_icmp .ne 37, 3) := by decide +kernel
theorem dX3_isHeld_10 : decode cX3_isHeld 10 = .ok (.aload_n 0, 1) := by decide +kernel
theorem dX3_isHeld_11 : decode cX3_isHeld 11 = .ok (.getfield 32, 3) := by decide +kernel
theorem dX3_isHeld_14 : decode cX3_isHeld 14 = .ok (.aload_n 0, 1) := by decide +kernel
theorem dX3_isHeld_15 : decode cX3_isHeld 15 = .ok (.getfield 13, 3) := by decide +kernel
theorem dX3_isHeld_18 : decode cX3_isHeld 18 = .ok (.iload_n 1, 1) := by decide +kernel
theorem dX3_isHeld_19 : decode cX3_isHeld 19 = .ok (.iaload, 1) := by decide +kernel
theorem dX3_isHeld_20 : decode cX3_isHeld 20 = .ok (.iaload, 1) := by decide +kernel
theorem dX3_isHeld_21 : decode cX3_isHeld 21 = .ok (.iconst 1, 1) := by decide +kernel
theorem dX3_isHeld_22 : decode cX3_isHeld 22 = .ok (.if_icmp .eq 18, 3) := by decide +kernel
theorem dX3_isHeld_25 : decode cX3_isHeld 25 = .ok (.aload_n 0, 1) := by decide +kernel
theorem dX3_isHeld_26 : decode cX3_isHeld 26 = .ok (.getfield 32, 3) := by decide +kernel
theorem dX3_isHeld_29 : decode cX3_isHeld 29 = .ok (.aload_n 0, 1) := by decide +kernel
theorem dX3_isHeld_30 : decode cX3_isHeld 30 = .ok (.getfield 13, 3) := by decide +kernel
theorem dX3_isHeld_33 : decode cX3_isHeld 33 = .ok (.iload_n 1, 1) := by decide +kernel
theorem dX3_isHeld_34 : decode cX3_isHeld 34 = .ok (.iaload, 1) := by decide +kernel
theorem dX3_isHeld_35 : decode cX3_isHeld 35 = .ok (.iaload, 1) := by decide +kernel
theorem dX3_isHeld_36 : decode cX3_isHeld 36 = .ok (.iconst 2, 1) := by decide +kernel
theorem dX3_isHeld_37 : decode cX3_isHeld 37 = .ok (.if_icmp .ne 7, 3) := by decide +kernel
theorem dX3_isHeld_40 : decode cX3_isHeld 40 = .ok (.iconst 1, 1) := by decide +kernel
theorem dX3_isHeld_41 : decode cX3_isHeld 41 = .ok (.goto 4, 3) := by decide +kernel
theorem dX3_isHeld_44 : decode cX3_isHeld 44 = .ok (.iconst 0, 1) := by decide +kernel
theorem dX3_isHeld_45 : decode cX3_isHeld 45 = .ok (.ireturn, 1) := by decide +kernel
theorem dX3_manyFrozen_0 : decode cX3_manyFrozen 0 = .ok (.iconst 0, 1) := by decide +kernel
theorem dX3_manyFrozen_1 : decode cX3_manyFrozen 1 = .ok (.istore_n 1, 1) := by decide +kernel
theorem dX3_manyFrozen_2 : decode cX3_manyFrozen 2 = .ok (.iconst 0, 1) := by decide +kernel
theorem dX3_manyFrozen_3 : decode cX3_manyFrozen 3 = .ok (.istore_n 2, 1) := by decide +kernel
theorem dX3_manyFrozen_4 : decode cX3_manyFrozen 4 = .ok (.iload_n 2, 1) := by decide +kernel
theorem dX3_manyFrozen_5 : decode cX3_manyFrozen 5 = .ok (.aload_n 0, 1) := by decide +kernel
theorem dX3_manyFrozen_6 : decode cX3_manyFrozen 6 = .ok (.getfield 93, 3) := by decide +kernel
theorem dX3_manyFrozen_9 : decode cX3_manyFrozen 9 = .ok (.if_icmp .ge 26, 3) := by decide +kernel
theorem dX3_manyFrozen_12 : decode cX3_manyFrozen 12 = .ok (.iload_n 1, 1) := by decide +kernel
theorem dX3_manyFrozen_13 : decode cX3_manyFrozen 13 = .ok (.aload_n 0, 1) := by decide +kernel
theorem dX3_manyFrozen_14 : decode cX3_manyFrozen 14 = .ok (.getfield 66, 3) := by decide +kernel
theorem dX3_manyFrozen_17 : decode cX3_manyFrozen 17 = .ok (.iload_n 2, 1) := by decide +kernel
theorem dX3_manyFrozen_18 : decode cX3_manyFrozen 18 = .ok (.baload, 1) := by decide +kernel
theorem dX3_manyFrozen_19 : decode cX3_manyFrozen 19 = .ok (.ifCond .eq 7, 3) := by decide +kernel
theorem dX3_manyFrozen_22 : decode cX3_manyFrozen 22 = .ok (.iconst 1, 1) := by decide +kernel
theorem dX3_manyFrozen_23 : decode cX3_manyFrozen 23 = .ok (.goto 4, 3) := by decide +kernel
theorem dX3_manyFrozen_26 : decode cX3_manyFrozen 26 = .ok (.iconst 0, 1) := by decide +kernel
theorem dX3_manyFrozen_27 : decode cX3_manyFrozen 27 = .ok (.iadd, 1) := by decide +kernel
theorem dX3_manyFrozen_28 : decode cX3_manyFrozen 28 = .ok (.istore_n 1, 1) := by decide +kernel
theorem dX3_manyFrozen_29 : decode cX3_manyFrozen 29 = .ok (.iinc 2 1, 3) := by decide +kernel
theorem dX3_manyFrozen_32 : decode cX3_manyFrozen 32 = .ok (.goto (-28), 3) := by decide +kernel
theorem dX3_manyFrozen_35 : decode cX3_manyFrozen 35 = .ok (.iload_n 1, 1) := by decide +kernel
theorem dX3_manyFrozen_36 : decode cX3_manyFrozen 36 = .ok (.ireturn, 1) := by decide +kernel
theorem dX3_leastFrozen_0 : decode cX3_leastFrozen 0 = .ok (.iconst (-1), 1) := by decide +kernel
theorem dX3_leastFrozen_1 : decode cX3_leastFrozen 1 = .ok (.istore_n 1, 1) := by decide +kernel
theorem dX3_leastFrozen_2 : decode cX3_leastFrozen 2 = .ok (.iconst 0, 1) := by decide +kernel
theorem dX3_leastFrozen_3 : decode cX3_leastFrozen 3 = .ok (.istore_n 2, 1) := by decide +kernel
theorem dX3_leastFrozen_4 : decode cX3_leastFrozen 4 = .ok (.iload_n 2, 1) := by decide +kernel
theorem dX3_leastFrozen_5 : decode cX3_leastFrozen 5 = .ok (.aload_n 0, 1) := by decide +kernel
theorem dX3_leastFrozen_6 : decode cX3_leastFrozen 6 = .ok (.getfield 93, 3) := by decide +kernel
theorem dX3_leastFrozen_9 : decode cX3_leastFrozen 9 = .ok (.if_icmp .ge 80, 3) := by decide +kernel
theorem dX3_leastFrozen_12 : decode cX3_leastFrozen 12 = .ok (.aload_n 0, 1) := by decide +kernel
theorem dX3_leastFrozen_13 : decode cX3_leastFrozen 13 = .ok (.getfield 66, 3) := by decide +kernel
theorem dX3_leastFrozen_16 : decode cX3_leastFrozen 16 = .ok (.iload_n 2, 1) := by decide +kernel
theorem dX3_leastFrozen_17 : decode cX3_leastFrozen 17 = .ok (.baload, 1) := by decide +kernel
theorem dX3_leastFrozen_18 : decode cX3_leastFrozen 18 = .ok (.ifCond .eq 65, 3) := by decide +kernel
theorem dX3_leastFrozen_21 : decode cX3_leastFrozen 21 = .ok (.aload_n 0, 1) := by decide +kernel
theorem dX3_leastFrozen_22 : decode cX3_leastFrozen 22 = .ok (.getfield 7, 3) := by decide +kernel
theorem dX3_leastFrozen_25 : decode cX3_leastFrozen 25 = .ok (.iload_n 2, 1) := by decide +kernel
theorem dX3_leastFrozen_26 : decode cX3_leastFrozen 26 = .ok (.iaload, 1) := by decide +kernel
theorem dX3_leastFrozen_27 : decode cX3_leastFrozen 27 = .ok (.iconst 1, 1) := by decide +kernel
theorem dX3_leastFrozen_28 : decode cX3_leastFrozen 28 = .ok (.if_icmp .eq 55, 3) := by decide +kernel
theorem dX3_leastFrozen_31 : decode cX3_leastFrozen 31 = .ok (.iload_n 1, 1) := by decide +kernel
theorem dX3_leastFrozen_32 : decode cX3_leastFrozen 32 = .ok (.iconst (-1), 1) := by decide +kernel
theorem dX3_leastFrozen_33 : decode cX3_leastFrozen 33 = .ok (.if_icmp .eq 48, 3) := by decide +kernel
theorem dX3_leastFrozen_36 : decode cX3_leastFrozen 36 = .ok (.aload_n 0, 1) := by decide +kernel
theorem dX3_leastFrozen_37 : decode cX3_leastFrozen 37 = .ok (.getfield 25, 3) := by decide +kernel
theorem dX3_leastFrozen_40 : decode cX3_leastFrozen 40 = .ok (.iload_n 2, 1) := by decide +kernel
theorem dX3_leastFrozen_41 : decode cX3_leastFrozen 41 = .ok (.iaload, 1) := by decide +kernel
theorem dX3_leastFrozen_42 : decode cX3_leastFrozen 42 = .ok (.aload_n 0, 1) := by decide +kernel
theorem dX3_leastFrozen_43 : decode cX3_leastFrozen 43 = .ok (.getfield 25, 3) := by decide +kernel
theorem dX3_leastFrozen_46 : decode cX3_leastFrozen 46 = .ok (.iload_n 1, 1) := by decide +kernel
theorem dX3_leastFrozen_47 : decode cX3_leastFrozen 47 = .ok (.iaload, 1) := by decide +kernel
theorem dX3_leastFrozen_48 : decode cX3_leastFrozen 48 = .ok (.if_icmp .lt 33, 3) := by decide +kernel
theorem dX3_leastFrozen_51 : decode cX3_leastFrozen 51 = .ok (.aload_n 0, 1) := by decide +kernel
theorem dX3_leastFrozen_52 : decode cX3_leastFrozen 52 = .ok (.getfield 25, 3) := by decide +kernel
theorem dX3_leastFrozen_55 : decode cX3_leastFrozen 55 = .ok (.iload_n 2, 1) := by decide +kernel
theorem dX3_leastFrozen_56 : decode cX3_leastFrozen 56 = .ok (.iaload, 1) := by decide +kernel
theorem dX3_leastFrozen_57 : decode cX3_leastFrozen 57 = .ok (.aload_n 0, 1) := by decide +kernel
theorem dX3_leastFrozen_58 : decode cX3_leastFrozen 58 = .ok (.getfield 25, 3) := by decide +kernel
theorem dX3_leastFrozen_61 : decode cX3_leastFrozen 61 = .ok (.iload_n 1, 1) := by decide +kernel
theorem dX3_leastFrozen_62 : decode cX3_leastFrozen 62 = .ok (.iaload, 1) := by decide +kernel
theorem dX3_leastFrozen_63 : decode cX3_leastFrozen 63 = .ok (.if_icmp .ne 20, 3) := by decide +kernel
theorem dX3_leastFrozen_66 : decode cX3_leastFrozen 66 = .ok (.aload_n 0, 1) := by decide +kernel
theorem dX3_leastFrozen_67 : decode cX3_leastFrozen 67 = .ok (.getfield 75, 3) := by decide +kernel
theorem dX3_leastFrozen_70 : decode cX3_leastFrozen 70 = .ok (.iload_n 2, 1) := by decide +kernel
theorem dX3_leastFrozen_71 : decode cX3_leastFrozen 71 = .ok (.iaload, 1) := by decide +kernel
theorem dX3_leastFrozen_72 : decode cX3_leastFrozen 72 = .ok (.aload_n 0, 1) := by decide +kernel
theorem dX3_leastFrozen_73 : decode cX3_leastFrozen 73 = .ok (.getfield 75, 3) := by decide +kernel
theorem dX3_leastFrozen_76 : decode cX3_leastFrozen 76 = .ok (.iload_n 1, 1) := by decide +kernel
theorem dX3_leastFrozen_77 : decode cX3_leastFrozen 77 = .ok (.iaload, 1) := by decide +kernel
theorem dX3_leastFrozen_78 : decode cX3_leastFrozen 78 = .ok (.if_icmp .ge 5, 3) := by decide +kernel
theorem dX3_leastFrozen_81 : decode cX3_leastFrozen 81 = .ok (.iload_n 2, 1) := by decide +kernel
theorem dX3_leastFrozen_82 : decode cX3_leastFrozen 82 = .ok (.istore_n 1, 1) := by decide +kernel
theorem dX3_leastFrozen_83 : decode cX3_leastFrozen 83 = .ok (.iinc 2 1, 3) := by decide +kernel
theorem dX3_leastFrozen_86 : decode cX3_leastFrozen 86 = .ok (.goto (-82), 3) := by decide +kernel
theorem dX3_leastFrozen_89 : decode cX3_leastFrozen 89 = .ok (.iload_n 1, 1) := by decide +kernel
theorem dX3_leastFrozen_90 : decode cX3_leastFrozen 90 = .ok (.ireturn, 1) := by decide +kernel
set_option maxRecDepth 20000 in
theorem ggX3_freezes_X3_manyFrozen : GoodIn wsX3_freezes wsX3_manyFrozen := goodIn_r _ [13, 14, 1, 21, 22, 23, 24, 25, 26, 27, 28, 29, 30, 31, 32, 33, 34, 35, 36, 37, 38, 39, 40, 41, 42, 43, 44, 45, 46, 47, 48, 49, 50, 51, 52, 53] (by decide +kernel) (by decide +kernel)
set_option maxRecDepth 20000 in
theorem gX3_freezes_X3_manyFrozen : GoodIn wsX3_freezes (wsV RX3 114 RX3 yX3_manyFrozen wsX3_manyFrozen) := goodIn_app (goodIn_of _ (by decide +kernel)) ggX3_freezes_X3_manyFrozen
set_option maxRecDepth 20000 in
theorem ggX3_freezes_X3_leastFrozen : GoodIn wsX3_freezes wsX3_leastFrozen := goodIn_r _ [18, 14, 1, 19, 20, 4, 21, 22, 23, 24, 25, 26, 27, 28, 29, 30, 31, 32, 33, 34, 35, 36, 37, 38, 39, 40, 41, 42, 43, 44, 45, 46, 47, 48, 49, 50, 51, 52, 53] (by decide +kernel) (by decide +kernel)
set_option maxRecDepth 20000 in
theorem gX3_freezes_X3_leastFrozen : GoodIn wsX3_freezes (wsV RX3 118 RX3 yX3_leastFrozen wsX3_leastFrozen) := goodIn_app (goodIn_of _ (by decide +kernel)) ggX3_freezes_X3_leastFrozen
theorem dX3_freezes_0 : decode cX3_freezes 0 = .ok (.aload_n 0, 1) := by decide +kernel
theorem dX3_freezes_1 : decode cX3_freezes 1 = .ok (.getfield 66, 3) := by decide +kernel
theorem dX3_freezes_4 : decode cX3_freezes 4 = .ok (.iload_n 1, 1) := by decide +kernel
theorem dX3_freezes_5 : decode cX3_freezes 5 = .ok (.iconst 1, 1) := by decide +kernel
theorem dX3_freezes_6 : decode cX3_freezes 6 = .ok (.bastore, 1) := by decide +kernel
theorem dX3_freezes_7 : decode cX3_freezes 7 = .ok (.aload_n 0, 1) := by decide +kernel
theorem dX3_freezes_8 : decode cX3_freezes 8 = .ok (.getfield 72, 3) := by decide +kernel
theorem dX3_freezes_11 : decode cX3_freezes 11 = .ok (.iload_n 1, 1) := by decide +kernel
theorem dX3_freezes_12 : decode cX3_freezes 12 = .ok (.aload_n 0, 1) := by decide +kernel
theorem dX3_freezes_13 : decode cX3_freezes 13 = .ok (.getfield 108, 3) := by decide +kernel
theorem dX3_freezes_16 : decode cX3_freezes 16 = .ok (.iastore, 1) := by decide +kernel
theorem dX3_freezes_17 : decode cX3_freezes 17 = .ok (.aload_n 0, 1) := by decide +kernel
theorem dX3_freezes_18 : decode cX3_freezes 18 = .ok (.getfield 75, 3) := by decide +kernel
theorem dX3_freezes_21 : decode cX3_freezes 21 = .ok (.iload_n 1, 1) := by decide +kernel
theorem dX3_freezes_22 : decode cX3_freezes 22 = .ok (.aload_n 0, 1) := by decide +kernel
theorem dX3_freezes_23 : decode cX3_freezes 23 = .ok (.getfield 111, 3) := by decide +kernel
theorem dX3_freezes_26 : decode cX3_freezes 26 = .ok (.iastore, 1) := by decide +kernel
theorem dX3_freezes_27 : decode cX3_freezes 27 = .ok (.aload_n 0, 1) := by decide +kernel
theorem dX3_freezes_28 : decode cX3_freezes 28 = .ok (.dup, 1) := by decide +kernel
theorem dX3_freezes_29 : decode cX3_freezes 29 = .ok (.getfield 111, 3) := by decide +kernel
theorem dX3_freezes_32 : decode cX3_freezes 32 = .ok (.iconst 1, 1) := by decide +kernel
theorem dX3_freezes_33 : decode cX3_freezes 33 = .ok (.iadd, 1) := by decide +kernel
theorem dX3_freezes_34 : decode cX3_freezes 34 = .ok (.putfield 111, 3) := by decide +kernel
theorem dX3_freezes_37 : decode cX3_freezes 37 = .ok (.iconst 0, 1) := by decide +kernel
theorem dX3_freezes_38 : decode cX3_freezes 38 = .ok (.istore_n 2, 1) := by decide +kernel
theorem dX3_freezes_39 : decode cX3_freezes 39 = .ok (.iload_n 2, 1) := by decide +kernel
theorem dX3_freezes_40 : decode cX3_freezes 40 = .ok (.iconst 4, 1) := by decide +kernel
theorem dX3_freezes_41 : decode cX3_freezes 41 = .ok (.if_icmp .ge 25, 3) := by decide +kernel
theorem dX3_freezes_44 : decode cX3_freezes 44 = .ok (.aload_n 0, 1) := by decide +kernel
theorem dX3_freezes_45 : decode cX3_freezes 45 = .ok (.getfield 69, 3) := by decide +kernel
theorem dX3_freezes_48 : decode cX3_freezes 48 = .ok (.iconst 4, 1) := by decide +kernel
theorem dX3_freezes_49 : decode cX3_freezes 49 = .ok (.iload_n 1, 1) := by decide +kernel
theorem dX3_freezes_50 : decode cX3_freezes 50 = .ok (.imul, 1) := by decide +kernel
theorem dX3_freezes_51 : decode cX3_freezes 51 = .ok (.iload_n 2, 1) := by decide +kernel
theorem dX3_freezes_52 : decode cX3_freezes 52 = .ok (.iadd, 1) := by decide +kernel
theorem dX3_freezes_53 : decode cX3_freezes 53 = .ok (.aload_n 0, 1) := by decide +kernel
theorem dX3_freezes_54 : decode cX3_freezes 54 = .ok (.getfield 59, 3) := by decide +kernel
theorem dX3_freezes_57 : decode cX3_freezes 57 = .ok (.iload_n 2, 1) := by decide +kernel
theorem dX3_freezes_58 : decode cX3_freezes 58 = .ok (.iaload, 1) := by decide +kernel
theorem dX3_freezes_59 : decode cX3_freezes 59 = .ok (.iastore, 1) := by decide +kernel
theorem dX3_freezes_60 : decode cX3_freezes 60 = .ok (.iinc 2 1, 3) := by decide +kernel
theorem dX3_freezes_63 : decode cX3_freezes 63 = .ok (.goto (-24), 3) := by decide +kernel
theorem dX3_freezes_66 : decode cX3_freezes 66 = .ok (.aload_n 0, 1) := by decide +kernel
theorem dX3_freezes_67 : decode cX3_freezes 67 = .ok (.invokevirtual 114, 3) := by decide +kernel
theorem dX3_freezes_70 : decode cX3_freezes 70 = .ok (.aload_n 0, 1) := by decide +kernel
theorem dX3_freezes_71 : decode cX3_freezes 71 = .ok (.getfield 62, 3) := by decide +kernel
theorem dX3_freezes_74 : decode cX3_freezes 74 = .ok (.if_icmp .le 24, 3) := by decide +kernel
theorem dX3_freezes_77 : decode cX3_freezes 77 = .ok (.aload_n 0, 1) := by decide +kernel
theorem dX3_freezes_78 : decode cX3_freezes 78 = .ok (.invokevirtual 118, 3) := by decide +kernel
theorem dX3_freezes_81 : decode cX3_freezes 81 = .ok (.istore_n 2, 1) := by decide +kernel
theorem dX3_freezes_82 : decode cX3_freezes 82 = .ok (.aload_n 0, 1) := by decide +kernel
theorem dX3_freezes_83 : decode cX3_freezes 83 = .ok (.getfield 66, 3) := by decide +kernel
theorem dX3_freezes_86 : decode cX3_freezes 86 = .ok (.iload_n 2, 1) := by decide +kernel
theorem dX3_freezes_87 : decode cX3_freezes 87 = .ok (.iconst (-1), 1) := by decide +kernel
theorem dX3_freezes_88 : decode cX3_freezes 88 = .ok (.if_icmp .ne 7, 3) := by decide +kernel
theorem dX3_freezes_91 : decode cX3_freezes 91 = .ok (.iload_n 1, 1) := by decide +kernel
theorem dX3_freezes_92 : decode cX3_freezes 92 = .ok (.goto 4, 3) := by decide +kernel
theorem dX3_freezes_95 : decode cX3_freezes 95 = .ok (.iload_n 2, 1) := by decide +kernel
theorem dX3_freezes_96 : decode cX3_freezes 96 = .ok (.iconst 0, 1) := by decide +kernel
theorem dX3_freezes_97 : decode cX3_freezes 97 = .ok (.bastore, 1) := by decide +kernel
theorem dX3_freezes_98 : decode cX3_freezes 98 = .ok (.return_, 1) := by decide +kernel
set_option maxRecDepth 20000 in
theorem ggX3_room_X3_in : GoodIn wsX3_room wsX3_in := goodIn_r _ [6] (by decide +kernel) (by decide +kernel)
set_option maxRecDepth 20000 in
theorem gX3_room_X3_in : GoodIn wsX3_room (va_wsS RX3 96 yX3_in wsX3_in) := goodIn_app (goodIn_of _ (by decide +kernel)) ggX3_room_X3_in
set_option maxRecDepth 20000 in
theorem ggX3_room_X3_manyFrozen : GoodIn wsX3_room wsX3_manyFrozen := goodIn_r _ [10, 11, 2, 19, 20, 21, 22, 23, 24, 25, 26, 27, 28, 29, 30, 31, 32, 33, 34, 35, 36, 37, 38, 39, 40, 41, 42, 43, 44, 45, 46, 47, 48, 49, 50, 51] (by decide +kernel) (by decide +kernel)
set_option maxRecDepth 20000 in
theorem gX3_room_X3_manyFrozen : GoodIn wsX3_room (wsV RX3 114 RX3 yX3_manyFrozen wsX3_manyFrozen) := goodIn_app (goodIn_of _ (by decide +kernel)) ggX3_room_X3_manyFrozen
set_option maxRecDepth 20000 in
theorem ggX3_room_X3_leastFrozen : GoodIn wsX3_room wsX3_leastFrozen := goodIn_r _ [15, 11, 2, 16, 17, 18, 19, 20, 21, 22, 23, 24, 25, 26, 27, 28, 29, 30, 31, 32, 33, 34, 35, 36, 37, 38, 39, 40, 41, 42, 43, 44, 45, 46, 47, 48, 49, 50, 51] (by decide +kernel) (by decide +kernel)
set_option maxRecDepth 20000 in
theorem gX3_room_X3_leastFrozen : GoodIn wsX3_room (wsV RX3 118 RX3 yX3_leastFrozen wsX3_leastFrozen) := goodIn_app (goodIn_of _ (by decide +kernel)) ggX3_room_X3_leastFrozen
theorem dX3_room_0 : decode cX3_room 0 = .ok (.iload_n 1, 1) := by decide +kernel
theorem dX3_room_1 : decode cX3_room 1 = .ok (.iconst 1, 1) := by decide +kernel
theorem dX3_room_2 : decode cX3_room 2 = .ok (.bipush 8, 2) := by decide +kernel
theorem dX3_room_4 : decode cX3_room 4 = .ok (.invokestatic 96, 3) := by decide +kernel
theorem dX3_room_7 : decode cX3_room 7 = .ok (.ifCond .ne 6, 3) := by decide +kernel
theorem dX3_room_10 : decode cX3_room 10 = .ok (.bipush (-2), 2) := by decide +kernel
theorem dX3_room_12 : decode cX3_room 12 = .ok (.ireturn, 1) := by decide +kernel
theorem dX3_room_13 : decode cX3_room 13 = .ok (.aload_n 0, 1) := by decide +kernel
theorem dX3_room_14 : decode cX3_room 14 = .ok (.getfield 62, 3) := by decide +kernel
theorem dX3_room_17 : decode cX3_room 17 = .ok (.istore_n 2, 1) := by decide +kernel
theorem dX3_room_18 : decode cX3_room 18 = .ok (.aload_n 0, 1) := by decide +kernel
theorem dX3_room_19 : decode cX3_room 19 = .ok (.iload_n 1, 1) := by decide +kernel
theorem dX3_room_20 : decode cX3_room 20 = .ok (.putfield 62, 3) := by decide +kernel
theorem dX3_room_23 : decode cX3_room 23 = .ok (.aload_n 0, 1) := by decide +kernel
theorem dX3_room_24 : decode cX3_room 24 = .ok (.invokevirtual 114, 3) := by decide +kernel
theorem dX3_room_27 : decode cX3_room 27 = .ok (.aload_n 0, 1) := by decide +kernel
theorem dX3_room_28 : decode cX3_room 28 = .ok (.getfield 62, 3) := by decide +kernel
theorem dX3_room_31 : decode cX3_room 31 = .ok (.if_icmp .le 24, 3) := by decide +kernel
theorem dX3_room_34 : decode cX3_room 34 = .ok (.aload_n 0, 1) := by decide +kernel
theorem dX3_room_35 : decode cX3_room 35 = .ok (.invokevirtual 118, 3) := by decide +kernel
theorem dX3_room_38 : decode cX3_room 38 = .ok (.iconst (-1), 1) := by decide +kernel
theorem dX3_room_39 : decode cX3_room 39 = .ok (.if_icmp .eq 16, 3) := by decide +kernel
theorem dX3_room_42 : decode cX3_room 42 = .ok (.aload_n 0, 1) := by decide +kernel
theorem dX3_room_43 : decode cX3_room 43 = .ok (.getfield 66, 3) := by decide +kernel
theorem dX3_room_46 : decode cX3_room 46 = .ok (.aload_n 0, 1) := by decide +kernel
theorem dX3_room_47 : decode cX3_room 47 = .ok (.invokevirtual 118, 3) := by decide +kernel
theorem dX3_room_50 : decode cX3_room 50 = .ok (.iconst 0, 1) := by decide +kernel
theorem dX3_room_51 : decode cX3_room 51 = .ok (.bastore, 1) := by decide +kernel
theorem dX3_room_52 : decode cX3_room 52 = .ok (.goto (-29), 3) := by decide +kernel
theorem dX3_room_55 : decode cX3_room 55 = .ok (.iload_n 2, 1) := by decide +kernel
theorem dX3_room_56 : decode cX3_room 56 = .ok (.ireturn, 1) := by decide +kernel
set_option maxRecDepth 20000 in
theorem ggX3_wasBad_X3_isHeld : GoodIn wsX3_wasBad wsX3_isHeld := goodIn_r _ [14, 15, 4, 16, 38, 39, 40, 41, 42, 43, 44, 45, 46, 47, 48, 49, 50, 51, 52, 53, 54, 55, 56, 57, 58, 59, 60, 61, 62, 63, 64, 65, 66, 67, 68, 69, 70] (by decide +kernel) (by decide +kernel)
set_option maxRecDepth 20000 in
theorem gX3_wasBad_X3_isHeld : GoodIn wsX3_wasBad (wsV RX3 121 RX3 yX3_isHeld wsX3_isHeld) := goodIn_app (goodIn_of _ (by decide +kernel)) ggX3_wasBad_X3_isHeld
set_option maxRecDepth 20000 in
theorem ggX3_wasBad_X3_freezes : GoodIn wsX3_wasBad wsX3_freezes := goodIn_r _ [20, 21, 22, 23, 24, 25, 26, 27, 28, 29, 30, 31, 13, 32, 7, 33, 34, 35, 36, 15, 37, 38, 39, 40, 41, 42, 43, 44, 45, 46, 47, 48, 49, 50, 51, 52, 53, 54, 55, 56, 57, 58, 59, 60, 61, 62, 63, 64, 65, 66, 67, 68, 69, 70] (by decide +kernel) (by decide +kernel)
set_option maxRecDepth 20000 in
theorem gX3_wasBad_X3_freezes : GoodIn wsX3_wasBad (wsV RX3 124 RX3 yX3_freezes wsX3_freezes) := goodIn_app (goodIn_of _ (by decide +kernel)) ggX3_wasBad_X3_freezes
theorem dX3_wasBad_0 : decode cX3_wasBad 0 = .ok (.aload_n 0, 1) := by decide +kernel
theorem dX3_wasBad_1 : decode cX3_wasBad 1 = .ok (.getfield 38, 3) := by decide +kernel
theorem dX3_wasBad_4 : decode cX3_wasBad 4 = .ok (.iload_n 1, 1) := by decide +kernel
theorem dX3_wasBad_5 : decode cX3_wasBad 5 = .ok (.iconst 0, 1) := by decide +kernel
theorem dX3_wasBad_6 : decode cX3_wasBad 6 = .ok (.iastore, 1) := by decide +kernel
theorem dX3_wasBad_7 : decode cX3_wasBad 7 = .ok (.aload_n 0, 1) := by decide +kernel
theorem dX3_wasBad_8 : decode cX3_wasBad 8 = .ok (.getfield 41, 3) := by decide +kernel
theorem dX3_wasBad_11 : decode cX3_wasBad 11 = .ok (.iload_n 1, 1) := by decide +kernel
theorem dX3_wasBad_12 : decode cX3_wasBad 12 = .ok (.iconst 0, 1) := by decide +kernel
theorem dX3_wasBad_13 : decode cX3_wasBad 13 = .ok (.iastore, 1) := by decide +kernel
theorem dX3_wasBad_14 : decode cX3_wasBad 14 = .ok (.aload_n 0, 1) := by decide +kernel
theorem dX3_wasBad_15 : decode cX3_wasBad 15 = .ok (.getfield 35, 3) := by decide +kernel
theorem dX3_wasBad_18 : decode cX3_wasBad 18 = .ok (.iload_n 1, 1) := by decide +kernel
theorem dX3_wasBad_19 : decode cX3_wasBad 19 = .ok (.dup2, 1) := by decide +kernel
theorem dX3_wasBad_20 : decode cX3_wasBad 20 = .ok (.iaload, 1) := by decide +kernel
theorem dX3_wasBad_21 : decode cX3_wasBad 21 = .ok (.iconst 1, 1) := by decide +kernel
theorem dX3_wasBad_22 : decode cX3_wasBad 22 = .ok (.iadd, 1) := by decide +kernel
theorem dX3_wasBad_23 : decode cX3_wasBad 23 = .ok (.iastore, 1) := by decide +kernel
theorem dX3_wasBad_24 : decode cX3_wasBad 24 = .ok (.aload_n 0, 1) := by decide +kernel
theorem dX3_wasBad_25 : decode cX3_wasBad 25 = .ok (.getfield 32, 3) := by decide +kernel
theorem dX3_wasBad_28 : decode cX3_wasBad 28 = .ok (.iload_n 1, 1) := by decide +kernel
theorem dX3_wasBad_29 : decode cX3_wasBad 29 = .ok (.iaload, 1) := by decide +kernel
theorem dX3_wasBad_30 : decode cX3_wasBad 30 = .ok (.iconst 3, 1) := by decide +kernel
theorem dX3_wasBad_31 : decode cX3_wasBad 31 = .ok (.if_icmp .ne 7, 3) := by decide +kernel
theorem dX3_wasBad_34 : decode cX3_wasBad 34 = .ok (.iconst 1, 1) := by decide +kernel
theorem dX3_wasBad_35 : decode cX3_wasBad 35 = .ok (.goto 4, 3) := by decide +kernel
theorem dX3_wasBad_38 : decode cX3_wasBad 38 = .ok (.iconst 0, 1) := by decide +kernel
theorem dX3_wasBad_39 : decode cX3_wasBad 39 = .ok (.istore_n 2, 1) := by decide +kernel
theorem dX3_wasBad_40 : decode cX3_wasBad 40 = .ok (.aload_n 0, 1) := by decide +kernel
theorem dX3_wasBad_41 : decode cX3_wasBad 41 = .ok (.getfield 32, 3) := by decide +kernel
theorem dX3_wasBad_44 : decode cX3_wasBad 44 = .ok (.iload_n 1, 1) := by decide +kernel
theorem dX3_wasBad_45 : decode cX3_wasBad 45 = .ok (.aload_n 0, 1) := by decide +kernel
theorem dX3_wasBad_46 : decode cX3_wasBad 46 = .ok (.getfield 32, 3) := by decide +kernel
theorem dX3_wasBad_49 : decode cX3_wasBad 49 = .ok (.iload_n 1, 1) := by decide +kernel
theorem dX3_wasBad_50 : decode cX3_wasBad 50 = .ok (.iaload, 1) := by decide +kernel
theorem dX3_wasBad_51 : decode cX3_wasBad 51 = .ok (.ifCond .ne 7, 3) := by decide +kernel
theorem dX3_wasBad_54 : decode cX3_wasBad 54 = .ok (.iconst 1, 1) := by decide +kernel
theorem dX3_wasBad_55 : decode cX3_wasBad 55 = .ok (.goto 9, 3) := by decide +kernel
theorem dX3_wasBad_58 : decode cX3_wasBad 58 = .ok (.aload_n 0, 1) := by decide +kernel
theorem dX3_wasBad_59 : decode cX3_wasBad 59 = .ok (.getfield 32, 3) := by decide +kernel
theorem dX3_wasBad_62 : decode cX3_wasBad 62 = .ok (.iload_n 1, 1) := by decide +kernel
theorem dX3_wasBad_63 : decode cX3_wasBad 63 = .ok (.iaload, 1) := by decide +kernel
theorem dX3_wasBad_64 : decode cX3_wasBad 64 = .ok (.iastore, 1) := by decide +kernel
theorem dX3_wasBad_65 : decode cX3_wasBad 65 = .ok (.aload_n 0, 1) := by decide +kernel
theorem dX3_wasBad_66 : decode cX3_wasBad 66 = .ok (.getfield 32, 3) := by decide +kernel
theorem dX3_wasBad_69 : decode cX3_wasBad 69 = .ok (.iload_n 1, 1) := by decide +kernel
theorem dX3_wasBad_70 : decode cX3_wasBad 70 = .ok (.iaload, 1) := by decide +kernel
theorem dX3_wasBad_71 : decode cX3_wasBad 71 = .ok (.iconst 2, 1) := by decide +kernel
theorem dX3_wasBad_72 : decode cX3_wasBad 72 = .ok (.if_icmp .eq 107, 3) := by decide +kernel
theorem dX3_wasBad_75 : decode cX3_wasBad 75 = .ok (.iload_n 2, 1) := by decide +kernel
theorem dX3_wasBad_76 : decode cX3_wasBad 76 = .ok (.ifCond .ne 18, 3) := by decide +kernel
theorem dX3_wasBad_79 : decode cX3_wasBad 79 = .ok (.aload_n 0, 1) := by decide +kernel
