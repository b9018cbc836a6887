theorem dX4_init_0 : decode cX4_init 0 = .ok (.aload_n 0, 1) := by decide +kernel
theorem dX4_init_1 : decode cX4_init 1 = .ok (.invokespecial 1, 3) := by decide +kernel
theorem dX4_init_4 : decode cX4_init 4 = .ok (.aload_n 0, 1) := by decide +kernel
theorem dX4_init_5 : decode cX4_init 5 = .ok (.iconst 4, 1) := by decide +kernel
theorem dX4_init_6 : decode cX4_init 6 = .ok (.newarray .int, 2) := by decide +kernel
theorem dX4_init_8 : decode cX4_init 8 = .ok (.dup, 1) := by decide +kernel
theorem dX4_init_9 : decode cX4_init 9 = .ok (.iconst 0, 1) := by decide +kernel
theorem dX4_init_10 : decode cX4_init 10 = .ok (.bipush 50, 2) := by decide +kernel
theorem dX4_init_12 : decode cX4_init 12 = .ok (.iastore, 1) := by decide +kernel
theorem dX4_init_13 : decode cX4_init 13 = .ok (.dup, 1) := by decide +kernel
theorem dX4_init_14 : decode cX4_init 14 = .ok (.iconst 1, 1) := by decide +kernel
theorem dX4_init_15 : decode cX4_init 15 = .ok (.bipush 50, 2) := by decide +kernel
theorem dX4_init_17 : decode cX4_init 17 = .ok (.iastore, 1) := by decide +kernel
theorem dX4_init_18 : decode cX4_init 18 = .ok (.dup, 1) := by decide +kernel
theorem dX4_init_19 : decode cX4_init 19 = .ok (.iconst 2, 1) := by decide +kernel
theorem dX4_init_20 : decode cX4_init 20 = .ok (.bipush 50, 2) := by decide +kernel
theorem dX4_init_22 : decode cX4_init 22 = .ok (.iastore, 1) := by decide +kernel
theorem dX4_init_23 : decode cX4_init 23 = .ok (.dup, 1) := by decide +kernel
theorem dX4_init_24 : decode cX4_init 24 = .ok (.iconst 3, 1) := by decide +kernel
theorem dX4_init_25 : decode cX4_init 25 = .ok (.bipush 50, 2) := by decide +kernel
theorem dX4_init_27 : decode cX4_init 27 = .ok (.iastore, 1) := by decide +kernel
theorem dX4_init_28 : decode cX4_init 28 = .ok (.putfield 7, 3) := by decide +kernel
theorem dX4_init_31 : decode cX4_init 31 = .ok (.aload_n 0, 1) := by decide +kernel
theorem dX4_init_32 : decode cX4_init 32 = .ok (.iconst 5, 1) := by decide +kernel
theorem dX4_init_33 : decode cX4_init 33 = .ok (.newarray .int, 2) := by decide +kernel
theorem dX4_init_35 : decode cX4_init 35 = .ok (.dup, 1) := by decide +kernel
theorem dX4_init_36 : decode cX4_init 36 = .ok (.iconst 0, 1) := by decide +kernel
theorem dX4_init_37 : decode cX4_init 37 = .ok (.bipush 100, 2) := by decide +kernel
theorem dX4_init_39 : decode cX4_init 39 = .ok (.iastore, 1) := by decide +kernel
theorem dX4_init_40 : decode cX4_init 40 = .ok (.dup, 1) := by decide +kernel
theorem dX4_init_41 : decode cX4_init 41 = .ok (.iconst 1, 1) := by decide +kernel
theorem dX4_init_42 : decode cX4_init 42 = .ok (.bipush 100, 2) := by decide +kernel
theorem dX4_init_44 : decode cX4_init 44 = .ok (.iastore, 1) := by decide +kernel
theorem dX4_init_45 : decode cX4_init 45 = .ok (.dup, 1) := by decide +kernel
theorem dX4_init_46 : decode cX4_init 46 = .ok (.iconst 2, 1) := by decide +kernel
theorem dX4_init_47 : decode cX4_init 47 = .ok (.bipush 100, 2) := by decide +kernel
theorem dX4_init_49 : decode cX4_init 49 = .ok (.iastore, 1) := by decide +kernel
theorem dX4_init_50 : decode cX4_init 50 = .ok (.dup, 1) := by decide +kernel
theorem dX4_init_51 : decode cX4_init 51 = .ok (.iconst 3, 1) := by decide +kernel
theorem dX4_init_52 : decode cX4_init 52 = .ok (.bipush 100, 2) := by decide +kernel
theorem dX4_init_54 : decode cX4_init 54 = .ok (.iastore, 1) := by decide +kernel
theorem dX4_init_55 : decode cX4_init 55 = .ok (.dup, 1) := by decide +kernel
theorem dX4_init_56 : decode cX4_init 56 = .ok (.iconst 4, 1) := by decide +kernel
theorem dX4_init_57 : decode cX4_init 57 = .ok (.bipush 100, 2) := by decide +kernel
theorem dX4_init_59 : decode cX4_init 59 = .ok (.iastore, 1) := by decide +kernel
theorem dX4_init_60 : decode cX4_init 60 = .ok (.putfield 13, 3) := by decide +kernel
theorem dX4_init_63 : decode cX4_init 63 = .ok (.aload_n 0, 1) := by decide +kernel
theorem dX4_init_64 : decode cX4_init 64 = .ok (.bipush 8, 2) := by decide +kernel
theorem dX4_init_66 : decode cX4_init 66 = .ok (.newarray .int, 2) := by decide +kernel
theorem dX4_init_68 : decode cX4_init 68 = .ok (.putfield 16, 3) := by decide +kernel
theorem dX4_init_71 : decode cX4_init 71 = .ok (.aload_n 0, 1) := by decide +kernel
theorem dX4_init_72 : decode cX4_init 72 = .ok (.bipush 8, 2) := by decide +kernel
theorem dX4_init_74 : decode cX4_init 74 = .ok (.newarray .int, 2) := by decide +kernel
theorem dX4_init_76 : decode cX4_init 76 = .ok (.putfield 19, 3) := by decide +kernel
theorem dX4_init_79 : decode cX4_init 79 = .ok (.aload_n 0, 1) := by decide +kernel
theorem dX4_init_80 : decode cX4_init 80 = .ok (.bipush 8, 2) := by decide +kernel
theorem dX4_init_82 : decode cX4_init 82 = .ok (.newarray .int, 2) := by decide +kernel
theorem dX4_init_84 : decode cX4_init 84 = .ok (.putfield 22, 3) := by decide +kernel
theorem dX4_init_87 : decode cX4_init 87 = .ok (.aload_n 0, 1) := by decide +kernel
theorem dX4_init_88 : decode cX4_init 88 = .ok (.bipush 8, 2) := by decide +kernel
theorem dX4_init_90 : decode cX4_init 90 = .ok (.newarray .boolean, 2) := by decide +kernel
theorem dX4_init_92 : decode cX4_init 92 = .ok (.putfield 25, 3) := by decide +kernel
theorem dX4_init_95 : decode cX4_init 95 = .ok (.aload_n 0, 1) := by decide +kernel
theorem dX4_init_96 : decode cX4_init 96 = .ok (.bipush 24, 2) := by decide +kernel
theorem dX4_init_98 : decode cX4_init 98 = .ok (.newarray .int, 2) := by decide +kernel
theorem dX4_init_100 : decode cX4_init 100 = .ok (.putfield 29, 3) := by decide +kernel
theorem dX4_init_103 : decode cX4_init 103 = .ok (.aload_n 0, 1) := by decide +kernel
theorem dX4_init_104 : decode cX4_init 104 = .ok (.bipush 24, 2) := by decide +kernel
theorem dX4_init_106 : decode cX4_init 106 = .ok (.newarray .int, 2) := by decide +kernel
theorem dX4_init_108 : decode cX4_init 108 = .ok (.putfield 32, 3) := by decide +kernel
theorem dX4_init_111 : decode cX4_init 111 = .ok (.aload_n 0, 1) := by decide +kernel
theorem dX4_init_112 : decode cX4_init 112 = .ok (.bipush 24, 2) := by decide +kernel
theorem dX4_init_114 : decode cX4_init 114 = .ok (.newarray .int, 2) := by decide +kernel
theorem dX4_init_116 : decode cX4_init 116 = .ok (.putfield 35, 3) := by decide +kernel
theorem dX4_init_119 : decode cX4_init 119 = .ok (.aload_n 0, 1) := by decide +kernel
theorem dX4_init_120 : decode cX4_init 120 = .ok (.bipush 24, 2) := by decide +kernel
theorem dX4_init_122 : decode cX4_init 122 = .ok (.newarray .int, 2) := by decide +kernel
theorem dX4_init_124 : decode cX4_init 124 = .ok (.putfield 38, 3) := by decide +kernel
theorem dX4_init_127 : decode cX4_init 127 = .ok (.aload_n 0, 1) := by decide +kernel
theorem dX4_init_128 : decode cX4_init 128 = .ok (.bipush 24, 2) := by decide +kernel
theorem dX4_init_130 : decode cX4_init 130 = .ok (.newarray .int, 2) := by decide +kernel
theorem dX4_init_132 : decode cX4_init 132 = .ok (.putfield 41, 3) := by decide +kernel
theorem dX4_init_135 : decode cX4_init 135 = .ok (.aload_n 0, 1) := by decide +kernel
theorem dX4_init_136 : decode cX4_init 136 = .ok (.bipush 24, 2) := by decide +kernel
theorem dX4_init_138 : decode cX4_init 138 = .ok (.newarray .boolean, 2) := by decide +kernel
theorem dX4_init_140 : decode cX4_init 140 = .ok (.putfield 44, 3) := by decide +kernel
theorem dX4_init_143 : decode cX4_init 143 = .ok (.aload_n 0, 1) := by decide +kernel
theorem dX4_init_144 : decode cX4_init 144 = .ok (.bipush 24, 2) := by decide +kernel
theorem dX4_init_146 : decode cX4_init 146 = .ok (.newarray .int, 2) := by decide +kernel
theorem dX4_init_148 : decode cX4_init 148 = .ok (.putfield 47, 3) := by decide +kernel
theorem dX4_init_151 : decode cX4_init 151 = .ok (.aload_n 0, 1) := by decide +kernel
theorem dX4_init_152 : decode cX4_init 152 = .ok (.bipush 24, 2) := by decide +kernel
theorem dX4_init_154 : decode cX4_init 154 = .ok (.newarray .int, 2) := by decide +kernel
theorem dX4_init_156 : decode cX4_init 156 = .ok (.putfield 50, 3) := by decide +kernel
theorem dX4_init_159 : decode cX4_init 159 = .ok (.aload_n 0, 1) := by decide +kernel
theorem dX4_init_160 : decode cX4_init 160 = .ok (.iconst 3, 1) := by decide +kernel
theorem dX4_init_161 : decode cX4_init 161 = .ok (.newarray .int, 2) := by decide +kernel
theorem dX4_init_163 : decode cX4_init 163 = .ok (.putfield 53, 3) := by decide +kernel
theorem dX4_init_166 : decode cX4_init 166 = .ok (.aload_n 0, 1) := by decide +kernel
theorem dX4_init_167 : decode cX4_init 167 = .ok (.iconst 3, 1) := by decide +kernel
theorem dX4_init_168 : decode cX4_init 168 = .ok (.newarray .int, 2) := by decide +kernel
theorem dX4_init_170 : decode cX4_init 170 = .ok (.putfield 56, 3) := by decide +kernel
theorem dX4_init_173 : decode cX4_init 173 = .ok (.aload_n 0, 1) := by decide +kernel
theorem dX4_init_174 : decode cX4_init 174 = .ok (.iconst 3, 1) := by decide +kernel
theorem dX4_init_175 : decode cX4_init 175 = .ok (.newarray .int, 2) := by decide +kernel
theorem dX4_init_177 : decode cX4_init 177 = .ok (.dup, 1) := by decide +kernel
theorem dX4_init_178 : decode cX4_init 178 = .ok (.iconst 0, 1) := by decide +kernel
theorem dX4_init_179 : decode cX4_init 179 = .ok (.iconst (-1), 1) := by decide +kernel
theorem dX4_init_180 : decode cX4_init 180 = .ok (.iastore, 1) := by decide +kernel
theorem dX4_init_181 : decode cX4_init 181 = .ok (.dup, 1) := by decide +kernel
theorem dX4_init_182 : decode cX4_init 182 = .ok (.iconst 1, 1) := by decide +kernel
theorem dX4_init_183 : decode cX4_init 183 = .ok (.iconst (-1), 1) := by decide +kernel
theorem dX4_init_184 : decode cX4_init 184 = .ok (.iastore, 1) := by decide +kernel
theorem dX4_init_185 : decode cX4_init 185 = .ok (.dup, 1) := by decide +kernel
theorem dX4_init_186 : decode cX4_init 186 = .ok (.iconst 2, 1) := by decide +kernel
theorem dX4_init_187 : decode cX4_init 187 = .ok (.iconst (-1), 1) := by decide +kernel
theorem dX4_init_188 : decode cX4_init 188 = .ok (.iastore, 1) := by decide +kernel
theorem dX4_init_189 : decode cX4_init 189 = .ok (.putfield 59, 3) := by decide +kernel
theorem dX4_init_192 : decode cX4_init 192 = .ok (.aload_n 0, 1) := by decide +kernel
theorem dX4_init_193 : decode cX4_init 193 = .ok (.bipush 7, 2) := by decide +kernel
theorem dX4_init_195 : decode cX4_init 195 = .ok (.putfield 62, 3) := by decide +kernel
theorem dX4_init_198 : decode cX4_init 198 = .ok (.return_, 1) := by decide +kernel
theorem dX4_thrown_0 : decode cX4_thrown 0 = .ok (.aload_n 0, 1) := by decide +kernel
theorem dX4_thrown_1 : decode cX4_thrown 1 = .ok (.getfield 66, 3) := by decide +kernel
theorem dX4_thrown_4 : decode cX4_thrown 4 = .ok (.ireturn, 1) := by decide +kernel
theorem dX4_fails_0 : decode cX4_fails 0 = .ok (.aload_n 0, 1) := by decide +kernel
theorem dX4_fails_1 : decode cX4_fails 1 = .ok (.iload_n 1, 1) := by decide +kernel
theorem dX4_fails_2 : decode cX4_fails 2 = .ok (.putfield 66, 3) := by decide +kernel
theorem dX4_fails_5 : decode cX4_fails 5 = .ok (.iload_n 1, 1) := by decide +kernel
theorem dX4_fails_6 : decode cX4_fails 6 = .ok (.ifCond .le 7, 3) := by decide +kernel
theorem dX4_fails_9 : decode cX4_fails 9 = .ok (.iconst 1, 1) := by decide +kernel
theorem dX4_fails_10 : decode cX4_fails 10 = .ok (.goto 4, 3) := by decide +kernel
theorem dX4_fails_13 : decode cX4_fails 13 = .ok (.iconst 0, 1) := by decide +kernel
theorem dX4_fails_14 : decode cX4_fails 14 = .ok (.ireturn, 1) := by decide +kernel
theorem dX4_tells_0 : decode cX4_tells 0 = .ok (.aload_n 0, 1) := by decide +kernel
theorem dX4_tells_1 : decode cX4_tells 1 = .ok (.iconst 0, 1) := by decide +kernel
theorem dX4_tells_2 : decode cX4_tells 2 = .ok (.putfield 66, 3) := by decide +kernel
theorem dX4_tells_5 : decode cX4_tells 5 = .ok (.iload_n 1, 1) := by decide +kernel
theorem dX4_tells_6 : decode cX4_tells 6 = .ok (.ireturn, 1) := by decide +kernel
theorem dX4_in_0 : decode cX4_in 0 = .ok (.iload_n 0, 1) := by decide +kernel
theorem dX4_in_1 : decode cX4_in 1 = .ok (.iload_n 1, 1) := by decide +kernel
theorem dX4_in_2 : decode cX4_in 2 = .ok (.if_icmp .lt 12, 3) := by decide +kernel
theorem dX4_in_5 : decode cX4_in 5 = .ok (.iload_n 0, 1) := by decide +kernel
theorem dX4_in_6 : decode cX4_in 6 = .ok (.iload_n 2, 1) := by decide +kernel
theorem dX4_in_7 : decode cX4_in 7 = .ok (.if_icmp .gt 7, 3) := by decide +kernel
theorem dX4_in_10 : decode cX4_in 10 = .ok (.iconst 1, 1) := by decide +kernel
theorem dX4_in_11 : decode cX4_in 11 = .ok (.goto 4, 3) := by decide +kernel
theorem dX4_in_14 : decode cX4_in 14 = .ok (.iconst 0, 1) := by decide +kernel
theorem dX4_in_15 : decode cX4_in 15 = .ok (.ireturn, 1) := by decide +kernel
set_option maxRecDepth 20000 in
theorem ggX4_isNoKey_X4_in : GoodIn wsX4_isNoKey wsX4_in := goodIn_r _ [5] (by decide +kernel) (by decide +kernel)
set_option maxRecDepth 20000 in
theorem gX4_isNoKey_X4_in : GoodIn wsX4_isNoKey (va_wsS RX4 72 yX4_in wsX4_in) := goodIn_app (goodIn_of _ (by decide +kernel)) ggX4_isNoKey_X4_in
set_option maxRecDepth 20000 in
theorem ggX4_isNoKey_X4_fails : GoodIn wsX4_isNoKey wsX4_fails := goodIn_r _ [9, 10, 11, 12, 13, 14, 15, 16, 17, 18, 19, 20, 21, 22, 23, 24, 25, 26, 27, 28, 29, 30, 31, 32, 33] (by decide +kernel) (by decide +kernel)
set_option maxRecDepth 20000 in
theorem gX4_isNoKey_X4_fails : GoodIn wsX4_isNoKey (wsV RX4 76 RX4 yX4_fails wsX4_fails) := goodIn_app (goodIn_of _ (by decide +kernel)) ggX4_isNoKey_X4_fails
theorem dX4_isNoKey_0 : decode cX4_isNoKey 0 = .ok (.aload_n 0, 1) := by decide +kernel
theorem dX4_isNoKey_1 : decode cX4_isNoKey 1 = .ok (.iload_n 1, 1) := by decide +kernel
theorem dX4_isNoKey_2 : decode cX4_isNoKey 2 = .ok (.iconst 0, 1) := by decide +kernel
theorem dX4_isNoKey_3 : decode cX4_isNoKey 3 = .ok (.aload_n 0, 1) := by decide +kernel
theorem dX4_isNoKey_4 : decode cX4_isNoKey 4 = .ok (.getfield 69, 3) := by decide +kernel
theorem dX4_isNoKey_7 : decode cX4_isNoKey 7 = .ok (.iconst 1, 1) := by decide +kernel
theorem dX4_isNoKey_8 : decode cX4_isNoKey 8 = .ok (.isub, 1) := by decide +kernel
theorem dX4_isNoKey_9 : decode cX4_isNoKey 9 = .ok (.invokestatic 72, 3) := by decide +kernel
theorem dX4_isNoKey_12 : decode cX4_isNoKey 12 = .ok (.ifCond .eq 7, 3) := by decide +kernel
theorem dX4_isNoKey_15 : decode cX4_isNoKey 15 = .ok (.iconst 0, 1) := by decide +kernel
theorem dX4_isNoKey_16 : decode cX4_isNoKey 16 = .ok (.goto 4, 3) := by decide +kernel
theorem dX4_isNoKey_19 : decode cX4_isNoKey 19 = .ok (.iconst 1, 1) := by decide +kernel
theorem dX4_isNoKey_20 : decode cX4_isNoKey 20 = .ok (.invokevirtual 76, 3) := by decide +kernel
theorem dX4_isNoKey_23 : decode cX4_isNoKey 23 = .ok (.ireturn, 1) := by decide +kernel
set_option maxRecDepth 20000 in
theorem ggX4_isNoBuild_X4_in : GoodIn wsX4_isNoBuild wsX4_in := goodIn_r _ [5] (by decide +kernel) (by decide +kernel)
set_option maxRecDepth 20000 in
theorem gX4_isNoBuild_X4_in : GoodIn wsX4_isNoBuild (va_wsS RX4 72 yX4_in wsX4_in) := goodIn_app (goodIn_of _ (by decide +kernel)) ggX4_isNoBuild_X4_in
set_option maxRecDepth 20000 in
theorem ggX4_isNoBuild_X4_fails : GoodIn wsX4_isNoBuild wsX4_fails := goodIn_r _ [9, 10, 11, 12, 13, 14, 15, 16, 17, 18, 19, 20, 21, 22, 23, 24, 25, 26, 27, 28, 29, 30, 31, 32, 33] (by decide +kernel) (by decide +kernel)
set_option maxRecDepth 20000 in
theorem gX4_isNoBuild_X4_fails : GoodIn wsX4_isNoBuild (wsV RX4 76 RX4 yX4_fails wsX4_fails) := goodIn_app (goodIn_of _ (by decide +kernel)) ggX4_isNoBuild_X4_fails
theorem dX4_isNoBuild_0 : decode cX4_isNoBuild 0 = .ok (.aload_n 0, 1) := by decide +kernel
theorem dX4_isNoBuild_1 : decode cX4_isNoBuild 1 = .ok (.iload_n 1, 1) := by decide +kernel
theorem dX4_isNoBuild_2 : decode cX4_isNoBuild 2 = .ok (.iconst 0, 1) := by decide +kernel
theorem dX4_isNoBuild_3 : decode cX4_isNoBuild 3 = .ok (.aload_n 0, 1) := by decide +kernel
theorem dX4_isNoBuild_4 : decode cX4_isNoBuild 4 = .ok (.getfield 80, 3) := by decide +kernel
theorem dX4_isNoBuild_7 : decode cX4_isNoBuild 7 = .ok (.iconst 1, 1) := by decide +kernel
theorem dX4_isNoBuild_8 : decode cX4_isNoBuild 8 = .ok (.isub, 1) := by decide +kernel
theorem dX4_isNoBuild_9 : decode cX4_isNoBuild 9 = .ok (.invokestatic 72, 3) := by decide +kernel
theorem dX4_isNoBuild_12 : decode cX4_isNoBuild 12 = .ok (.ifCond .eq 7, 3) := by decide +kernel
theorem dX4_isNoBuild_15 : decode cX4_isNoBuild 15 = .ok (.iconst 0, 1) := by decide +kernel
theorem dX4_isNoBuild_16 : decode cX4_isNoBuild 16 = .ok (.goto 4, 3) := by decide +kernel
theorem dX4_isNoBuild_19 : decode cX4_isNoBuild 19 = .ok (.iconst 1, 1) := by decide +kernel
theorem dX4_isNoBuild_20 : decode cX4_isNoBuild 20 = .ok (.invokevirtual 76, 3) := by decide +kernel
theorem dX4_isNoBuild_23 : decode cX4_isNoBuild 23 = .ok (.ireturn, 1) := by decide +kernel
set_option maxRecDepth 20000 in
theorem ggX4_isNoMirror_X4_in : GoodIn wsX4_isNoMirror wsX4_in := goodIn_r _ [5] (by decide +kernel) (by decide +kernel)
set_option maxRecDepth 20000 in
theorem gX4_isNoMirror_X4_in : GoodIn wsX4_isNoMirror (va_wsS RX4 72 yX4_in wsX4_in) := goodIn_app (goodIn_of _ (by decide +kernel)) ggX4_isNoMirror_X4_in
set_option maxRecDepth 20000 in
theorem ggX4_isNoMirror_X4_fails : GoodIn wsX4_isNoMirror wsX4_fails := goodIn_r _ [9, 10, 11, 12, 13, 14, 15, 16, 17, 18, 19, 20, 21, 22, 23, 24, 25, 26, 27, 28, 29, 30, 31, 32, 33] (by decide +kernel) (by decide +kernel)
set_option maxRecDepth 20000 in
theorem gX4_isNoMirror_X4_fails : GoodIn wsX4_isNoMirror (wsV RX4 76 RX4 yX4_fails wsX4_fails) := goodIn_app (goodIn_of _ (by decide +kernel)) ggX4_isNoMirror_X4_fails
theorem dX4_isNoMirror_0 : decode cX4_isNoMirror 0 = .ok (.aload_n 0, 1) := by decide +kernel
theorem dX4_isNoMirror_1 : decode cX4_isNoMirror 1 = .ok (.iload_n 1, 1) := by decide +kernel
theorem dX4_isNoMirror_2 : decode cX4_isNoMirror 2 = .ok (.iconst 0, 1) := by decide +kernel
theorem dX4_isNoMirror_3 : decode cX4_isNoMirror 3 = .ok (.aload_n 0, 1) := by decide +kernel
theorem dX4_isNoMirror_4 : decode cX4_isNoMirror 4 = .ok (.getfield 83, 3) := by decide +kernel
theorem dX4_isNoMirror_7 : decode cX4_isNoMirror 7 = .ok (.iconst 1, 1) := by decide +kernel
theorem dX4_isNoMirror_8 : decode cX4_isNoMirror 8 = .ok (.isub, 1) := by decide +kernel
theorem dX4_isNoMirror_9 : decode cX4_isNoMirror 9 = .ok (.invokestatic 72, 3) := by decide +kernel
theorem dX4_isNoMirror_12 : decode cX4_isNoMirror 12 = .ok (.ifCond .eq 7, 3) := by decide +kernel
theorem dX4_isNoMirror_15 : decode cX4_isNoMirror 15 = .ok (.iconst 0, 1) := by decide +kernel
theorem dX4_isNoMirror_16 : decode cX4_isNoMirror 16 = .ok (.goto 4, 3) := by decide +kernel
theorem dX4_isNoMirror_19 : decode cX4_isNoMirror 19 = .ok (.iconst 1, 1) := by decide +kernel
theorem dX4_isNoMirror_20 : decode cX4_isNoMirror 20 = .ok (.invokevirtual 76, 3) := by decide +kernel
theorem dX4_isNoMirror_23 : decode cX4_isNoMirror 23 = .ok (.ireturn, 1) := by decide +kernel
theorem dX4_bits_0 : decode cX4_bits 0 = .ok (.iconst 0, 1) := by decide +kernel
theorem dX4_bits_1 : decode cX4_bits 1 = .ok (.istore_n 1, 1) := by decide +kernel
theorem dX4_bits_2 : decode cX4_bits 2 = .ok (.iconst 0, 1) := by decide +kernel
theorem dX4_bits_3 : decode cX4_bits 3 = .ok (.istore_n 2, 1) := by decide +kernel
theorem dX4_bits_4 : decode cX4_bits 4 = .ok (.iload_n 2, 1) := by decide +kernel
theorem dX4_bits_5 : decode cX4_bits 5 = .ok (.bipush 24, 2) := by decide +kernel
theorem dX4_bits_7 : decode cX4_bits 7 = .ok (.if_icmp .ge 17, 3) := by decide +kernel
theorem dX4_bits_10 : decode cX4_bits 10 = .ok (.iload_n 1, 1) := by decide +kernel
theorem dX4_bits_11 : decode cX4_bits 11 = .ok (.iload_n 0, 1) := by decide +kernel
theorem dX4_bits_12 : decode cX4_bits 12 = .ok (.iload_n 2, 1) := by decide +kernel
theorem dX4_bits_13 : decode cX4_bits 13 = .ok (.ishr, 1) := by decide +kernel
theorem dX4_bits_14 : decode cX4_bits 14 = .ok (.iconst 1, 1) := by decide +kernel
theorem dX4_bits_15 : decode cX4_bits 15 = .ok (.iand, 1) := by decide +kernel
theorem dX4_bits_16 : decode cX4_bits 16 = .ok (.iadd, 1) := by decide +kernel
theorem dX4_bits_17 : decode cX4_bits 17 = .ok (.istore_n 1, 1) := by decide +kernel
theorem dX4_bits_18 : decode cX4_bits 18 = .ok (.iinc 2 1, 3) := by decide +kernel
theorem dX4_bits_21 : decode cX4_bits 21 = .ok (.goto (-17), 3) := by decide +kernel
theorem dX4_bits_24 : decode cX4_bits 24 = .ok (.iload_n 1, 1) := by decide +kernel
theorem dX4_bits_25 : decode cX4_bits 25 = .ok (.ireturn, 1) := by decide +kernel
set_option maxRecDepth 20000 in
theorem ggX4_addKey_X4_in : GoodIn wsX4_addKey wsX4_in := goodIn_r _ [9] (by decide +kernel) (by decide +kernel)
set_option maxRecDepth 20000 in
theorem gX4_addKey_X4_in : GoodIn wsX4_addKey (va_wsS RX4 72 yX4_in wsX4_in) := goodIn_app (goodIn_of _ (by decide +kernel)) ggX4_addKey_X4_in
set_option maxRecDepth 20000 in
theorem ggX4_addKey_X4_fails : GoodIn wsX4_addKey wsX4_fails := goodIn_r _ [13, 14, 15, 16, 17, 18, 19, 20, 21, 22, 23, 24, 25, 26, 27, 28, 29, 30, 31, 32, 33, 34, 35, 36, 37] (by decide +kernel) (by decide +kernel)
set_option maxRecDepth 20000 in
theorem gX4_addKey_X4_fails : GoodIn wsX4_addKey (wsV RX4 76 RX4 yX4_fails wsX4_fails) := goodIn_app (goodIn_of _ (by decide +kernel)) ggX4_addKey_X4_fails
theorem dX4_addKey_0 : decode cX4_addKey 0 = .ok (.aload_n 0, 1) := by decide +kernel
theorem dX4_addKey_1 : decode cX4_addKey 1 = .ok (.iload_n 1, 1) := by decide +kernel
theorem dX4_addKey_2 : decode cX4_addKey 2 = .ok (.iconst 0, 1) := by decide +kernel
theorem dX4_addKey_3 : decode cX4_addKey 3 = .ok (.iconst 3, 1) := by decide +kernel
theorem dX4_addKey_4 : decode cX4_addKey 4 = .ok (.invokestatic 72, 3) := by decide +kernel
theorem dX4_addKey_7 : decode cX4_addKey 7 = .ok (.ifCond .eq 23, 3) := by decide +kernel
theorem dX4_addKey_10 : decode cX4_addKey 10 = .ok (.iload_n 2, 1) := by decide +kernel
theorem dX4_addKey_11 : decode cX4_addKey 11 = .ok (.aload_n 0, 1) := by decide +kernel
theorem dX4_addKey_12 : decode cX4_addKey 12 = .ok (.getfield 86, 3) := by decide +kernel
theorem dX4_addKey_15 : decode cX4_addKey 15 = .ok (.if_icmp .lt 15, 3) := by decide +kernel
theorem dX4_addKey_18 : decode cX4_addKey 18 = .ok (.iload_n 3, 1) := by decide +kernel
theorem dX4_addKey_19 : decode cX4_addKey 19 = .ok (.iload_n 2, 1) := by decide +kernel
theorem dX4_addKey_20 : decode cX4_addKey 20 = .ok (.if_icmp .lt 10, 3) := by decide +kernel
theorem dX4_addKey_23 : decode cX4_addKey 23 = .ok (.iload_n 3, 1) := by decide +kernel
theorem dX4_addKey_24 : decode cX4_addKey 24 = .ok (.sipush 999, 3) := by decide +kernel
theorem dX4_addKey_27 : decode cX4_addKey 27 = .ok (.if_icmp .le 7, 3) := by decide +kernel
theorem dX4_addKey_30 : decode cX4_addKey 30 = .ok (.iconst 1, 1) := by decide +kernel
theorem dX4_addKey_31 : decode cX4_addKey 31 = .ok (.goto 17, 3) := by decide +kernel
theorem dX4_addKey_34 : decode cX4_addKey 34 = .ok (.aload_n 0, 1) := by decide +kernel
theorem dX4_addKey_35 : decode cX4_addKey 35 = .ok (.getfield 69, 3) := by decide +kernel
theorem dX4_addKey_38 : decode cX4_addKey 38 = .ok (.bipush 8, 2) := by decide +kernel
theorem dX4_addKey_40 : decode cX4_addKey 40 = .ok (.if_icmp .ne 7, 3) := by decide +kernel
theorem dX4_addKey_43 : decode cX4_addKey 43 = .ok (.iconst 2, 1) := by decide +kernel
theorem dX4_addKey_44 : decode cX4_addKey 44 = .ok (.goto 4, 3) := by decide +kernel
theorem dX4_addKey_47 : decode cX4_addKey 47 = .ok (.iconst 0, 1) := by decide +kernel
theorem dX4_addKey_48 : decode cX4_addKey 48 = .ok (.invokevirtual 76, 3) := by decide +kernel
theorem dX4_addKey_51 : decode cX4_addKey 51 = .ok (.ifCond .eq 5, 3) := by decide +kernel
theorem dX4_addKey_54 : decode cX4_addKey 54 = .ok (.iconst 0, 1) := by decide +kernel
theorem dX4_addKey_55 : decode cX4_addKey 55 = .ok (.ireturn, 1) := by decide +kernel
theorem dX4_addKey_56 : decode cX4_addKey 56 = .ok (.aload_n 0, 1) := by decide +kernel
theorem dX4_addKey_57 : decode cX4_addKey 57 = .ok (.getfield 16, 3) := by decide +kernel
theorem dX4_addKey_60 : decode cX4_addKey 60 = .ok (.aload_n 0, 1) := by decide +kernel
theorem dX4_addKey_61 : decode cX4_addKey 61 = .ok (.getfield 69, 3) := by decide +kernel
theorem dX4_addKey_64 : decode cX4_addKey 64 = .ok (.iload_n 1, 1) := by decide +kernel
theorem dX4_addKey_65 : decode cX4_addKey 65 = .ok (.iastore, 1) := by decide +kernel
theorem dX4_addKey_66 : decode cX4_addKey 66 = .ok (.aload_n 0, 1) := by decide +kernel
theorem dX4_addKey_67 : decode cX4_addKey 67 = .ok (.getfield 19, 3) := by decide +kernel
theorem dX4_addKey_70 : decode cX4_addKey 70 = .ok (.aload_n 0, 1) := by decide +kernel
theorem dX4_addKey_71 : decode cX4_addKey 71 = .ok (.getfield 69, 3) := by decide +kernel
theorem dX4_addKey_74 : decode cX4_addKey 74 = .ok (.iload_n 2, 1) := by decide +kernel
theorem dX4_addKey_75 : decode cX4_addKey 75 = .ok (.iastore, 1) := by decide +kernel
theorem dX4_addKey_76 : decode cX4_addKey 76 = .ok (.aload_n 0, 1) := by decide +kernel
theorem dX4_addKey_77 : decode cX4_addKey 77 = .ok (.getfield 22, 3) := by decide +kernel
theorem dX4_addKey_80 : decode cX4_addKey 80 = .ok (.aload_n 0, 1) := by decide +kernel
theorem dX4_addKey_81 : decode cX4_addKey 81 = .ok (.getfield 69, 3) := by decide +kernel
theorem dX4_addKey_84 : decode cX4_addKey 84 = .ok (.iload_n 3, 1) := by decide +kernel
theorem dX4_addKey_85 : decode cX4_addKey 85 = .ok (.iastore, 1) := by decide +kernel
theorem dX4_addKey_86 : decode cX4_addKey 86 = .ok (.aload_n 0, 1) := by decide +kernel
theorem dX4_addKey_87 : decode cX4_addKey 87 = .ok (.dup, 1) := by decide +kernel
theorem dX4_addKey_88 : decode cX4_addKey 88 = .ok (.getfield 69, 3) := by decide +kernel
theorem dX4_addKey_91 : decode cX4_addKey 91 = .ok (.iconst 1, 1) := by decide +kernel
theorem dX4_addKey_92 : decode cX4_addKey 92 = .ok (.iadd, 1) := by decide +kernel
theorem dX4_addKey_93 : decode cX4_addKey 93 = .ok (.putfield 69, 3) := by decide +kernel
theorem dX4_addKey_96 : decode cX4_addKey 96 = .ok (.aload_n 0, 1) := by decide +kernel
theorem dX4_addKey_97 : decode cX4_addKey 97 = .ok (.getfield 69, 3) := by decide +kernel
theorem dX4_addKey_100 : decode cX4_addKey 100 = .ok (.iconst 1, 1) := by decide +kernel
theorem dX4_addKey_101 : decode cX4_addKey 101 = .ok (.isub, 1) := by decide +kernel
theorem dX4_addKey_102 : decode cX4_addKey 102 = .ok (.ireturn, 1) := by decide +kernel
set_option maxRecDepth 20000 in
theorem ggX4_lives_X4_in : GoodIn wsX4_lives wsX4_in := goodIn_r _ [8] (by decide +kernel) (by decide +kernel)
set_option maxRecDepth 20000 in
theorem gX4_lives_X4_in : GoodIn wsX4_lives (va_wsS RX4 72 yX4_in wsX4_in) := goodIn_app (goodIn_of _ (by decide +kernel)) ggX4_lives_X4_in
theorem dX4_lives_0 : decode cX4_lives 0 = .ok (.aload_n 0, 1) := by decide +kernel
theorem dX4_lives_1 : decode cX4_lives 1 = .ok (.getfield 25, 3) := by decide +kernel
theorem dX4_lives_4 : decode cX4_lives 4 = .ok (.iload_n 1, 1) := by decide +kernel
theorem dX4_lives_5 : decode cX4_lives 5 = .ok (.baload, 1) := by decide +kernel
theorem dX4_lives_6 : decode cX4_lives 6 = .ok (.ifCond .ne 29, 3) := by decide +kernel
theorem dX4_lives_9 : decode cX4_lives 9 = .ok (.aload_n 0, 1) := by decide +kernel
theorem dX4_lives_10 : decode cX4_lives 10 = .ok (.getfield 86, 3) := by decide +kernel
theorem dX4_lives_13 : decode cX4_lives 13 = .ok (.aload_n 0, 1) := by decide +kernel
theorem dX4_lives_14 : decode cX4_lives 14 = .ok (.getfield 19, 3) := by decide +kernel
theorem dX4_lives_17 : decode cX4_lives 17 = .ok (.iload_n 1, 1) := by decide +kernel
theorem dX4_lives_18 : decode cX4_lives 18 = .ok (.iaload, 1) := by decide +kernel
theorem dX4_lives_19 : decode cX4_lives 19 = .ok (.aload_n 0, 1) := by decide +kernel
theorem dX4_lives_20 : decode cX4_lives 20 = .ok (.getfield 22, 3) := by decide +kernel
theorem dX4_lives_23 : decode cX4_lives 23 = .ok (.iload_n 1, 1) := by decide +kernel
theorem dX4_lives_24 : decode cX4_lives 24 = .ok (.iaload, 1) := by decide +kernel
theorem dX4_lives_25 : decode cX4_lives 25 = .ok (.invokestatic 72, 3) := by decide +kernel
theorem dX4_lives_28 : decode cX4_lives 28 = .ok (.ifCond .eq 7, 3) := by decide +kernel
theorem dX4_lives_31 : decode cX4_lives 31 = .ok (.iconst 1, 1) := by decide +kernel
theorem dX4_lives_32 : decode cX4_lives 32 = .ok (.goto 4, 3) := by decide +kernel
theorem dX4_lives_35 : decode cX4_lives 35 = .ok (.iconst 0, 1) := by decide +kernel
theorem dX4_lives_36 : decode cX4_lives 36 = .ok (.ireturn, 1) := by decide +kernel
set_option maxRecDepth 20000 in
theorem ggX4_loseKey_X4_isNoKey : GoodIn wsX4_loseKey wsX4_isNoKey := goodIn_r _ [6, 7, 8, 9, 5, 10, 11, 12, 13, 14, 15, 53, 54, 55, 56, 57, 58, 59, 60, 61, 62, 63, 64, 65, 66, 67, 68, 69, 70, 71, 72, 73, 74, 75] (by decide +kernel) (by decide +kernel)
set_option maxRecDepth 20000 in
theorem gX4_loseKey_X4_isNoKey : GoodIn wsX4_loseKey (wsV RX4 89 RX4 yX4_isNoKey wsX4_isNoKey) := goodIn_app (goodIn_of _ (by decide +kernel)) ggX4_loseKey_X4_isNoKey
set_option maxRecDepth 20000 in
theorem ggX4_loseKey_X4_fails : GoodIn wsX4_loseKey wsX4_fails := goodIn_r _ [14, 15, 53, 54, 55, 56, 57, 58, 59, 60, 61, 62, 63, 64, 65, 66, 67, 68, 69, 70, 71, 72, 73, 74, 75] (by decide +kernel) (by decide +kernel)
set_option maxRecDepth 20000 in
theorem gX4_loseKey_X4_fails : GoodIn wsX4_loseKey (wsV RX4 76 RX4 yX4_fails wsX4_fails) := goodIn_app (goodIn_of _ (by decide +kernel)) ggX4_loseKey_X4_fails
set_option maxRecDepth 20000 in
theorem ggX4_loseKey_X4_trusted : GoodIn wsX4_loseKey wsX4_trusted := goodIn_r _ [19, 20, 21, 22, 5, 23, 24, 25, 26, 27, 28, 29, 30, 31, 32, 33, 34, 35, 36, 37, 38, 39, 40, 7, 41, 42, 43, 44, 45, 46, 1, 47, 48, 49, 8, 9, 10, 53, 54, 55, 56, 57, 58, 59, 60, 61, 62, 63, 64, 65, 66, 67, 68, 69, 70, 71, 72, 73, 74, 75] (by decide +kernel) (by decide +kernel)
set_option maxRecDepth 20000 in
theorem gX4_loseKey_X4_trusted : GoodIn wsX4_loseKey (wsV RX4 92 RX4 yX4_trusted wsX4_trusted) := goodIn_app (goodIn_of _ (by decide +kernel)) ggX4_loseKey_X4_trusted
set_option maxRecDepth 20000 in
theorem ggX4_loseKey_X4_bits : GoodIn wsX4_loseKey wsX4_bits := goodIn_r _ [52] (by decide +kernel) (by decide +kernel)
set_option maxRecDepth 20000 in
theorem gX4_loseKey_X4_bits : GoodIn wsX4_loseKey (va_wsS RX4 96 yX4_bits wsX4_bits) := goodIn_app (goodIn_of _ (by decide +kernel)) ggX4_loseKey_X4_bits
theorem dX4_loseKey_0 : decode cX4_loseKey 0 = .ok (.aload_n 0, 1) := by decide +kernel
theorem dX4_loseKey_1 : decode cX4_loseKey 1 = .ok (.iload_n 1, 1) := by decide +kernel
theorem dX4_loseKey_2 : decode cX4_loseKey 2 = .ok (.invokevirtual 89, 3) := by decide +kernel
theorem dX4_loseKey_5 : decode cX4_loseKey 5 = .ok (.ifCond .ne 24, 3) := by decide +kernel
theorem dX4_loseKey_8 : decode cX4_loseKey 8 = .ok (.aload_n 0, 1) := by decide +kernel
theorem dX4_loseKey_9 : decode cX4_loseKey 9 = .ok (.aload_n 0, 1) := by decide +kernel
theorem dX4_loseKey_10 : decode cX4_loseKey 10 = .ok (.getfield 25, 3) := by decide +kernel
theorem dX4_loseKey_13 : decode cX4_loseKey 13 = .ok (.iload_n 1, 1) := by decide +kernel
theorem dX4_loseKey_14 : decode cX4_loseKey 14 = .ok (.baload, 1) := by decide +kernel
theorem dX4_loseKey_15 : decode cX4_loseKey 15 = .ok (.ifCond .eq 7, 3) := by decide +kernel
theorem dX4_loseKey_18 : decode cX4_loseKey 18 = .ok (.iconst 2, 1) := by decide +kernel
theorem dX4_loseKey_19 : decode cX4_loseKey 19 = .ok (.goto 4, 3) := by decide +kernel
theorem dX4_loseKey_22 : decode cX4_loseKey 22 = .ok (.iconst 0, 1) := by decide +kernel
theorem dX4_loseKey_23 : decode cX4_loseKey 23 = .ok (.invokevirtual 76, 3) := by decide +kernel
theorem dX4_loseKey_26 : decode cX4_loseKey 26 = .ok (.ifCond .eq 5, 3) := by decide +kernel
theorem dX4_loseKey_29 : decode cX4_loseKey 29 = .ok (.iconst 0, 1) := by decide +kernel
theorem dX4_loseKey_30 : decode cX4_loseKey 30 = .ok (.ireturn, 1) := by decide +kernel
theorem dX4_loseKey_31 : decode cX4_loseKey 31 = .ok (.aload_n 0, 1) := by decide +kernel
theorem dX4_loseKey_32 : decode cX4_loseKey 32 = .ok (.invokevirtual 92, 3) := by decide +kernel
theorem dX4_loseKey_35 : decode cX4_loseKey 35 = .ok (.istore_n 2, 1) := by decide +kernel
theorem dX4_loseKey_36 : decode cX4_loseKey 36 = .ok (.aload_n 0, 1) := by decide +kernel
theorem dX4_loseKey_37 : decode cX4_loseKey 37 = .ok (.getfield 25, 3) := by decide +kernel
theorem dX4_loseKey_40 : decode cX4_loseKey 40 = .ok (.iload_n 1, 1) := by decide +kernel
theorem dX4_loseKey_41 : decode cX4_loseKey 41 = .ok (.iconst 1, 1) := by decide +kernel
theorem dX4_loseKey_42 : decode cX4_loseKey 42 = .ok (.bastore, 1) := by decide +kernel
theorem dX4_loseKey_43 : decode cX4_loseKey 43 = .ok (.iload_n 2, 1) := by decide +kernel
theorem dX4_loseKey_44 : decode cX4_loseKey 44 = .ok (.aload_n 0, 1) := by decide +kernel
theorem dX4_loseKey_45 : decode cX4_loseKey 45 = .ok (.invokevirtual 92, 3) := by decide +kernel
theorem dX4_loseKey_48 : decode cX4_loseKey 48 = .ok (.iconst (-1), 1) := by decide +kernel
theorem dX4_loseKey_49 : decode cX4_loseKey 49 = .ok (.ixor, 1) := by decide +kernel
theorem dX4_loseKey_50 : decode cX4_loseKey 50 = .ok (.iand, 1) := by decide +kernel
theorem dX4_loseKey_51 : decode cX4_loseKey 51 = .ok (.invokestatic 96, 3) := by decide +kernel
theorem dX4_loseKey_54 : decode cX4_loseKey 54 = .ok (.ireturn, 1) := by decide +kernel
set_option maxRecDepth 20000 in
theorem ggX4_extendKey_X4_isNoKey : GoodIn wsX4_extendKey wsX4_isNoKey := goodIn_r _ [8, 9, 10, 11, 7, 12, 13, 14, 15, 16, 17, 18, 19, 20, 21, 22, 23, 24, 25, 26, 27, 28, 29, 30, 31, 32, 33, 34, 35, 36, 37, 38, 39, 40] (by decide +kernel) (by decide +kernel)
set_option maxRecDepth 20000 in
theorem gX4_extendKey_X4_isNoKey : GoodIn wsX4_extendKey (wsV RX4 89 RX4 yX4_isNoKey wsX4_isNoKey) := goodIn_app (goodIn_of _ (by decide +kernel)) ggX4_extendKey_X4_isNoKey
set_option maxRecDepth 20000 in
theorem ggX4_extendKey_X4_fails : GoodIn wsX4_extendKey wsX4_fails := goodIn_r _ [16, 17, 18, 19, 20, 21, 22, 23, 24, 25, 26, 27, 28, 29, 30, 31, 32, 33, 34, 35, 36, 37, 38, 39, 40] (by decide +kernel) (by decide +kernel)
set_option maxRecDepth 20000 in
theorem gX4_extendKey_X4_fails : GoodIn wsX4_extendKey (wsV RX4 76 RX4 yX4_fails wsX4_fails) := goodIn_app (goodIn_of _ (by decide +kernel)) ggX4_extendKey_X4_fails
theorem dX4_extendKey_0 : decode cX4_extendKey 0 = .ok (.aload_n 0, 1) := by decide +kernel
theorem dX4_extendKey_1 : decode cX4_extendKey 1 = .ok (.iload_n 1, 1) := by decide +kernel
theorem dX4_extendKey_2 : decode cX4_extendKey 2 = .ok (.invokevirtual 89, 3) := by decide +kernel
theorem dX4_extendKey_5 : decode cX4_extendKey 5 = .ok (.ifCond .ne 58, 3) := by decide +kernel
theorem dX4_extendKey_8 : decode cX4_extendKey 8 = .ok (.aload_n 0, 1) := by decide +kernel
theorem dX4_extendKey_9 : decode cX4_extendKey 9 = .ok (.iload_n 2, 1) := by decide +kernel
theorem dX4_extendKey_10 : decode cX4_extendKey 10 = .ok (.aload_n 0, 1) := by decide +kernel
theorem dX4_extendKey_11 : decode cX4_extendKey 11 = .ok (.getfield 22, 3) := by decide +kernel
theorem dX4_extendKey_14 : decode cX4_extendKey 14 = .ok (.iload_n 1, 1) := by decide +kernel
theorem dX4_extendKey_15 : decode cX4_extendKey 15 = .ok (.iaload, 1) := by decide +kernel
theorem dX4_extendKey_16 : decode cX4_extendKey 16 = .ok (.if_icmp .le 10, 3) := by decide +kernel
theorem dX4_extendKey_19 : decode cX4_extendKey 19 = .ok (.iload_n 2, 1) := by decide +kernel
theorem dX4_extendKey_20 : decode cX4_extendKey 20 = .ok (.sipush 999, 3) := by decide +kernel
theorem dX4_extendKey_23 : decode cX4_extendKey 23 = .ok (.if_icmp .le 7, 3) := by decide +kernel
theorem dX4_extendKey_26 : decode cX4_extendKey 26 = .ok (.iconst 2, 1) := by decide +kernel
theorem dX4_extendKey_27 : decode cX4_extendKey 27 = .ok (.goto 30, 3) := by decide +kernel
theorem dX4_extendKey_30 : decode cX4_extendKey 30 = .ok (.aload_n 0, 1) := by decide +kernel
theorem dX4_extendKey_31 : decode cX4_extendKey 31 = .ok (.getfield 25, 3) := by decide +kernel
theorem dX4_extendKey_34 : decode cX4_extendKey 34 = .ok (.iload_n 1, 1) := by decide +kernel
theorem dX4_extendKey_35 : decode cX4_extendKey 35 = .ok (.baload, 1) := by decide +kernel
theorem dX4_extendKey_36 : decode cX4_extendKey 36 = .ok (.ifCond .ne 16, 3) := by decide +kernel
theorem dX4_extendKey_39 : decode cX4_extendKey 39 = .ok (.aload_n 0, 1) := by decide +kernel
theorem dX4_extendKey_40 : decode cX4_extendKey 40 = .ok (.getfield 22, 3) := by decide +kernel
theorem dX4_extendKey_43 : decode cX4_extendKey 43 = .ok (.iload_n 1, 1) := by decide +kernel
theorem dX4_extendKey_44 : decode cX4_extendKey 44 = .ok (.iaload, 1) := by decide +kernel
theorem dX4_extendKey_45 : decode cX4_extendKey 45 = .ok (.aload_n 0, 1) := by decide +kernel
theorem dX4_extendKey_46 : decode cX4_extendKey 46 = .ok (.getfield 86, 3) := by decide +kernel
theorem dX4_extendKey_49 : decode cX4_extendKey 49 = .ok (.if_icmp .ge 7, 3) := by decide +kernel
theorem dX4_extendKey_52 : decode cX4_extendKey 52 = .ok (.iconst 3, 1) := by decide +kernel
theorem dX4_extendKey_53 : decode cX4_extendKey 53 = .ok (.goto 4, 3) := by decide +kernel
theorem dX4_extendKey_56 : decode cX4_extendKey 56 = .ok (.iconst 0, 1) := by decide +kernel
theorem dX4_extendKey_57 : decode cX4_extendKey 57 = .ok (.invokevirtual 76, 3) := by decide +kernel
theorem dX4_extendKey_60 : decode cX4_extendKey 60 = .ok (.ifCond .eq 5, 3) := by decide +kernel
theorem dX4_extendKey_63 : decode cX4_extendKey 63 = .ok (.iconst 0, 1) := by decide +kernel
theorem dX4_extendKey_64 : decode cX4_extendKey 64 = .ok (.ireturn, 1) := by decide +kernel
theorem dX4_extendKey_65 : decode cX4_extendKey 65 = .ok (.aload_n 0, 1) := by decide +kernel
theorem dX4_extendKey_66 : decode cX4_extendKey 66 = .ok (.getfield 22, 3) := by decide +kernel
theorem dX4_extendKey_69 : decode cX4_extendKey 69 = .ok (.iload_n 1, 1) := by decide +kernel
theorem dX4_extendKey_70 : decode cX4_extendKey 70 = .ok (.iaload, 1) := by decide +kernel
theorem dX4_extendKey_71 : decode cX4_extendKey 71 = .ok (.istore_n 3, 1) := by decide +kernel
theorem dX4_extendKey_72 : decode cX4_extendKey 72 = .ok (.aload_n 0, 1) := by decide +kernel
theorem dX4_extendKey_73 : decode cX4_extendKey 73 = .ok (.getfield 22, 3) := by decide +kernel
theorem dX4_extendKey_76 : decode cX4_extendKey 76 = .ok (.iload_n 1, 1) := by decide +kernel
theorem dX4_extendKey_77 : decode cX4_extendKey 77 = .ok (.iload_n 2, 1) := by decide +kernel
theorem dX4_extendKey_78 : decode cX4_extendKey 78 = .ok (.iastore, 1) := by decide +kernel
theorem dX4_extendKey_79 : decode cX4_extendKey 79 = .ok (.iload_n 3, 1) := by decide +kernel
theorem dX4_extendKey_80 : decode cX4_extendKey 80 = .ok (.ireturn, 1) := by decide +kernel
set_option maxRecDepth 20000 in
theorem ggX4_isLive_X4_isNoKey : GoodIn wsX4_isLive wsX4_isNoKey := goodIn_r _ [5, 6, 7, 8, 4, 9, 10, 11, 12, 13, 14, 23, 24, 25, 26, 27, 28, 29, 30, 31, 32, 33, 34, 35, 36, 37, 38, 39, 40, 41, 42, 43, 44, 45] (by decide +kernel) (by decide +kernel)
set_option maxRecDepth 20000 in
theorem gX4_isLive_X4_isNoKey : GoodIn wsX4_isLive (wsV RX4 89 RX4 yX4_isNoKey wsX4_isNoKey) := goodIn_app (goodIn_of _ (by decide +kernel)) ggX4_isLive_X4_isNoKey
set_option maxRecDepth 20000 in
theorem ggX4_isLive_X4_lives : GoodIn wsX4_isLive wsX4_lives := goodIn_r _ [18, 19, 20, 21, 22, 7, 8, 4, 9, 23, 24, 25, 26, 27, 28, 29, 30, 31, 32, 33, 34, 35, 36, 37, 38, 39, 40, 41, 42, 43, 44, 45] (by decide +kernel) (by decide +kernel)
set_option maxRecDepth 20000 in
theorem gX4_isLive_X4_lives : GoodIn wsX4_isLive (wsV RX4 100 RX4 yX4_lives wsX4_lives) := goodIn_app (goodIn_of _ (by decide +kernel)) ggX4_isLive_X4_lives
theorem dX4_isLive_0 : decode cX4_isLive 0 = .ok (.aload_n 0, 1) := by decide +kernel
theorem dX4_isLive_1 : decode cX4_isLive 1 = .ok (.iload_n 1, 1) := by decide +kernel
theorem dX4_isLive_2 : decode cX4_isLive 2 = .ok (.invokevirtual 89, 3) := by decide +kernel
theorem dX4_isLive_5 : decode cX4_isLive 5 = .ok (.ifCond .ne 15, 3) := by decide +kernel
theorem dX4_isLive_8 : decode cX4_isLive 8 = .ok (.aload_n 0, 1) := by decide +kernel
theorem dX4_isLive_9 : decode cX4_isLive 9 = .ok (.iload_n 1, 1) := by decide +kernel
theorem dX4_isLive_10 : decode cX4_isLive 10 = .ok (.invokevirtual 100, 3) := by decide +kernel
theorem dX4_isLive_13 : decode cX4_isLive 13 = .ok (.ifCond .eq 7, 3) := by decide +kernel
theorem dX4_isLive_16 : decode cX4_isLive 16 = .ok (.iconst 1, 1) := by decide +kernel
theorem dX4_isLive_17 : decode cX4_isLive 17 = .ok (.goto 4, 3) := by decide +kernel
theorem dX4_isLive_20 : decode cX4_isLive 20 = .ok (.iconst 0, 1) := by decide +kernel
theorem dX4_isLive_21 : decode cX4_isLive 21 = .ok (.ireturn, 1) := by decide +kernel
set_option maxRecDepth 20000 in
theorem ggX4_setWeight_X4_in : GoodIn wsX4_setWeight wsX4_in := goodIn_r _ [5] (by decide +kernel) (by decide +kernel)
set_option maxRecDepth 20000 in
theorem gX4_setWeight_X4_in : GoodIn wsX4_setWeight (va_wsS RX4 72 yX4_in wsX4_in) := goodIn_app (goodIn_of _ (by decide +kernel)) ggX4_setWeight_X4_in
set_option maxRecDepth 20000 in
theorem ggX4_setWeight_X4_fails : GoodIn wsX4_setWeight wsX4_fails := goodIn_r _ [9, 10, 11, 12, 13, 14, 15, 16, 17, 18, 19, 20, 21, 22, 23, 24, 25, 26, 27, 28, 29, 30, 31, 32, 33] (by decide +kernel) (by decide +kernel)
set_option maxRecDepth 20000 in
theorem gX4_setWeight_X4_fails : GoodIn wsX4_setWeight (wsV RX4 76 RX4 yX4_fails wsX4_fails) := goodIn_app (goodIn_of _ (by decide +kernel)) ggX4_setWeight_X4_fails
theorem dX4_setWeight_0 : decode cX4_setWeight 0 = .ok (.aload_n 0, 1) := by decide +kernel
theorem dX4_setWeight_1 : decode cX4_setWeight 1 = .ok (.iload_n 1, 1) := by decide +kernel
theorem dX4_setWeight_2 : decode cX4_setWeight 2 = .ok (.iconst 0, 1) := by decide +kernel
theorem dX4_setWeight_3 : decode cX4_setWeight 3 = .ok (.iconst 3, 1) := by decide +kernel
theorem dX4_setWeight_4 : decode cX4_setWeight 4 = .ok (.invokestatic 72, 3) := by decide +kernel
theorem dX4_setWeight_7 : decode cX4_setWeight 7 = .ok (.ifCond .eq 17, 3) := by decide +kernel
theorem dX4_setWeight_10 : decode cX4_setWeight 10 = .ok (.iload_n 2, 1) := by decide +kernel
theorem dX4_setWeight_11 : decode cX4_setWeight 11 = .ok (.iconst 0, 1) := by decide +kernel
theorem dX4_setWeight_12 : decode cX4_setWeight 12 = .ok (.bipush 100, 2) := by decide +kernel
theorem dX4_setWeight_14 : decode cX4_setWeight 14 = .ok (.invokestatic 72, 3) := by decide +kernel
theorem dX4_setWeight_17 : decode cX4_setWeight 17 = .ok (.ifCond .eq 7, 3) := by decide +kernel
theorem dX4_setWeight_20 : decode cX4_setWeight 20 = .ok (.iconst 0, 1) := by decide +kernel
theorem dX4_setWeight_21 : decode cX4_setWeight 21 = .ok (.goto 4, 3) := by decide +kernel
theorem dX4_setWeight_24 : decode cX4_setWeight 24 = .ok (.iconst 1, 1) := by decide +kernel
theorem dX4_setWeight_25 : decode cX4_setWeight 25 = .ok (.invokevirtual 76, 3) := by decide +kernel
theorem dX4_setWeight_28 : decode cX4_setWeight 28 = .ok (.ifCond .eq 5, 3) := by decide +kernel
theorem dX4_setWeight_31 : decode cX4_setWeight 31 = .ok (.iconst 0, 1) := by decide +kernel
theorem dX4_setWeight_32 : decode cX4_setWeight 32 = .ok (.ireturn, 1) := by decide +kernel
theorem dX4_setWeight_33 : decode cX4_setWeight 33 = .ok (.aload_n 0, 1) := by decide +kernel
theorem dX4_setWeight_34 : decode cX4_setWeight 34 = .ok (.getfield 7, 3) := by decide +kernel
theorem dX4_setWeight_37 : decode cX4_setWeight 37 = .ok (.iload_n 1, 1) := by decide +kernel
theorem dX4_setWeight_38 : decode cX4_setWeight 38 = .ok (.iaload, 1) := by decide +kernel
theorem dX4_setWeight_39 : decode cX4_setWeight 39 = .ok (.istore_n 3, 1) := by decide +kernel
theorem dX4_setWeight_40 : decode cX4_setWeight 40 = .ok (.aload_n 0, 1) := by decide +kernel
theorem dX4_setWeight_41 : decode cX4_setWeight 41 = .ok (.getfield 7, 3) := by decide +kernel
theorem dX4_setWeight_44 : decode cX4_setWeight 44 = .ok (.iload_n 1, 1) := by decide +kernel
theorem dX4_setWeight_45 : decode cX4_setWeight 45 = .ok (.iload_n 2, 1) := by decide +kernel
theorem dX4_setWeight_46 : decode cX4_setWeight 46 = .ok (.iastore, 1) := by decide +kernel
theorem dX4_setWeight_47 : decode cX4_setWeight 47 = .ok (.iload_n 3, 1) := by decide +kernel
theorem dX4_setWeight_48 : decode cX4_setWeight 48 = .ok (.ireturn, 1) := by decide +kernel
set_option maxRecDepth 20000 in
theorem ggX4_isNoName_X4_in : GoodIn wsX4_isNoName wsX4_in := goodIn_r _ [4] (by decide +kernel) (by decide +kernel)
set_option maxRecDepth 20000 in
theorem gX4_isNoName_X4_in : GoodIn wsX4_isNoName (va_wsS RX4 72 yX4_in wsX4_in) := goodIn_app (goodIn_of _ (by decide +kernel)) ggX4_isNoName_X4_in
theorem dX4_isNoName_0 : decode cX4_isNoName 0 = .ok (.iload_n 0, 1) := by decide +kernel
theorem dX4_isNoName_1 : decode cX4_isNoName 1 = .ok (.iconst 0, 1) := by decide +kernel
theorem dX4_isNoName_2 : decode cX4_isNoName 2 = .ok (.iconst 4, 1) := by decide +kernel
theorem dX4_isNoName_3 : decode cX4_isNoName 3 = .ok (.invokestatic 72, 3) := by decide +kernel
theorem dX4_isNoName_6 : decode cX4_isNoName 6 = .ok (.ifCond .ne 7, 3) := by decide +kernel
theorem dX4_isNoName_9 : decode cX4_isNoName 9 = .ok (.iconst 1, 1) := by decide +kernel
theorem dX4_isNoName_10 : decode cX4_isNoName 10 = .ok (.goto 4, 3) := by decide +kernel
theorem dX4_isNoName_13 : decode cX4_isNoName 13 = .ok (.iconst 0, 1) := by decide +kernel
theorem dX4_isNoName_14 : decode cX4_isNoName 14 = .ok (.ireturn, 1) := by decide +kernel
set_option maxRecDepth 20000 in
theorem ggX4_setThreshold_X4_isNoName : GoodIn wsX4_setThreshold wsX4_isNoName := goodIn_r _ [5, 6, 7, 4, 8] (by decide +kernel) (by decide +kernel)
set_option maxRecDepth 20000 in
theorem gX4_setThreshold_X4_isNoName : GoodIn wsX4_setThreshold (va_wsS RX4 103 yX4_isNoName wsX4_isNoName) := goodIn_app (goodIn_of _ (by decide +kernel)) ggX4_setThreshold_X4_isNoName
set_option maxRecDepth 20000 in
theorem ggX4_setThreshold_X4_in : GoodIn wsX4_setThreshold wsX4_in := goodIn_r _ [8] (by decide +kernel) (by decide +kernel)
set_option maxRecDepth 20000 in
theorem gX4_setThreshold_X4_in : GoodIn wsX4_setThreshold (va_wsS RX4 72 yX4_in wsX4_in) := goodIn_app (goodIn_of _ (by decide +kernel)) ggX4_setThreshold_X4_in
set_option maxRecDepth 20000 in
theorem ggX4_setThreshold_X4_fails : GoodIn wsX4_setThreshold wsX4_fails := goodIn_r _ [12, 13, 14, 15, 16, 17, 18, 19, 20, 21, 22, 23, 24, 25, 26, 27, 28, 29, 30, 31, 32, 33, 34, 35, 36] (by decide +kernel) (by decide +kernel)
set_option maxRecDepth 20000 in
theorem gX4_setThreshold_X4_fails : GoodIn wsX4_setThreshold (wsV RX4 76 RX4 yX4_fails wsX4_fails) := goodIn_app (goodIn_of _ (by decide +kernel)) ggX4_setThreshold_X4_fails
theorem dX4_setThreshold_0 : decode cX4_setThreshold 0 = .ok (.aload_n 0, 1) := by decide +kernel
theorem dX4_setThreshold_1 : decode cX4_setThreshold 1 = .ok (.iload_n 1, 1) := by decide +kernel
theorem dX4_setThreshold_2 : decode cX4_setThreshold 2 = .ok (.invokestatic 103, 3) := by decide +kernel
theorem dX4_setThreshold_5 : decode cX4_setThreshold 5 = .ok (.ifCond .ne 14, 3) := by decide +kernel
theorem dX4_setThreshold_8 : decode cX4_setThreshold 8 = .ok (.iload_n 2, 1) := by decide +kernel
theorem dX4_setThreshold_9 : decode cX4_setThreshold 9 = .ok (.iconst 1, 1) := by decide +kernel
theorem dX4_setThreshold_10 : decode cX4_setThreshold 10 = .ok (.sipush 400, 3) := by decide +kernel
theorem dX4_setThreshold_13 : decode cX4_setThreshold 13 = .ok (.invokestatic 72, 3) := by decide +kernel
theorem dX4_setThreshold_16 : decode cX4_setThreshold 16 = .ok (.ifCond .ne 7, 3) := by decide +kernel
theorem dX4_setThreshold_19 : decode cX4_setThreshold 19 = .ok (.iconst 1, 1) := by decide +kernel
theorem dX4_setThreshold_20 : decode cX4_setThreshold 20 = .ok (.goto 4, 3) := by decide +kernel
theorem dX4_setThreshold_23 : decode cX4_setThreshold 23 = .ok (.iconst 0, 1) := by decide +kernel
theorem dX4_setThreshold_24 : decode cX4_setThreshold 24 = .ok (.invokevirtual 76, 3) := by decide +kernel
theorem dX4_setThreshold_27 : decode cX4_setThreshold 27 = .ok (.ifCond .eq 5, 3) := by decide +kernel
theorem dX4_setThreshold_30 : decode cX4_setThreshold 30 = .ok (.iconst 0, 1) := by decide +kernel
theorem dX4_setThreshold_31 : decode cX4_setThreshold 31 = .ok (.ireturn, 1) := by decide +kernel
theorem dX4_setThreshold_32 : decode cX4_setThreshold 32 = .ok (.aload_n 0, 1) := by decide +kernel
theorem dX4_setThreshold_33 : decode cX4_setThreshold 33 = .ok (.getfield 13, 3) := by decide +kernel
theorem dX4_setThreshold_36 : decode cX4_setThreshold 36 = .ok (.iload_n 1, 1) := by decide +kernel
theorem dX4_setThreshold_37 : decode cX4_setThreshold 37 = .ok (.iaload, 1) := by decide +kernel
theorem dX4_setThreshold_38 : decode cX4_setThreshold 38 = .ok (.istore_n 3, 1) := by decide +kernel
theorem dX4_setThreshold_39 : decode cX4_setThreshold 39 = .ok (.aload_n 0, 1) := by decide +kernel
theorem dX4_setThreshold_40 : decode cX4_setThreshold 40 = .ok (.getfield 13, 3) := by decide +kernel
theorem dX4_setThreshold_43 : decode cX4_setThreshold 43 = .ok (.iload_n 1, 1) := by decide +kernel
theorem dX4_setThreshold_44 : decode cX4_setThreshold 44 = .ok (.iload_n 2, 1) := by decide +kernel
theorem dX4_setThreshold_45 : decode cX4_setThreshold 45 = .ok (.iastore, 1) := by decide +kernel
theorem dX4_setThreshold_46 : decode cX4_setThreshold 46 = .ok (.iload_n 3, 1) := by decide +kernel
theorem dX4_setThreshold_47 : decode cX4_setThreshold 47 = .ok (.ireturn, 1) := by decide +kernel
set_option maxRecDepth 20000 in
theorem ggX4_areRecalled_X4_isGone : GoodIn wsX4_areRecalled wsX4_isGone := goodIn_r _ [6, 7, 8, 9, 10, 11, 12, 13, 14, 15, 16, 17, 18, 19, 20, 21, 22, 23, 24, 25, 26, 27, 28, 29, 30, 31] (by decide +kernel) (by decide +kernel)
set_option maxRecDepth 20000 in
theorem gX4_areRecalled_X4_isGone : GoodIn wsX4_areRecalled (wsV RX4 106 RX4 yX4_isGone wsX4_isGone) := goodIn_app (goodIn_of _ (by decide +kernel)) ggX4_areRecalled_X4_isGone
theorem dX4_areRecalled_0 : decode cX4_areRecalled 0 = .ok (.iconst 0, 1) := by decide +kernel
theorem dX4_areRecalled_1 : decode cX4_areRecalled 1 = .ok (.istore_n 2, 1) := by decide +kernel
theorem dX4_areRecalled_2 : decode cX4_areRecalled 2 = .ok (.iload_n 2, 1) := by decide +kernel
theorem dX4_areRecalled_3 : decode cX4_areRecalled 3 = .ok (.aload_n 0, 1) := by decide +kernel
theorem dX4_areRecalled_4 : decode cX4_areRecalled 4 = .ok (.getfield 80, 3) := by decide +kernel
theorem dX4_areRecalled_7 : decode cX4_areRecalled 7 = .ok (.if_icmp .ge 28, 3) := by decide +kernel
theorem dX4_areRecalled_10 : decode cX4_areRecalled 10 = .ok (.iload_n 1, 1) := by decide +kernel
theorem dX4_areRecalled_11 : decode cX4_areRecalled 11 = .ok (.iload_n 2, 1) := by decide +kernel
theorem dX4_areRecalled_12 : decode cX4_areRecalled 12 = .ok (.ishr, 1) := by decide +kernel
theorem dX4_areRecalled_13 : decode cX4_areRecalled 13 = .ok (.iconst 1, 1) := by decide +kernel
theorem dX4_areRecalled_14 : decode cX4_areRecalled 14 = .ok (.iand, 1) := by decide +kernel
theorem dX4_areRecalled_15 : decode cX4_areRecalled 15 = .ok (.iconst 1, 1) := by decide +kernel
theorem dX4_areRecalled_16 : decode cX4_areRecalled 16 = .ok (.if_icmp .ne 13, 3) := by decide +kernel
theorem dX4_areRecalled_19 : decode cX4_areRecalled 19 = .ok (.aload_n 0, 1) := by decide +kernel
theorem dX4_areRecalled_20 : decode cX4_areRecalled 20 = .ok (.iload_n 2, 1) := by decide +kernel
theorem dX4_areRecalled_21 : decode cX4_areRecalled 21 = .ok (.invokevirtual 106, 3) := by decide +kernel
theorem dX4_areRecalled_24 : decode cX4_areRecalled 24 = .ok (.ifCond .eq 5, 3) := by decide +kernel
theorem dX4_areRecalled_27 : decode cX4_areRecalled 27 = .ok (.iconst 1, 1) := by decide +kernel
theorem dX4_areRecalled_28 : decode cX4_areRecalled 28 = .ok (.ireturn, 1) := by decide +kernel
theorem dX4_areRecalled_29 : decode cX4_areRecalled 29 = .ok (.iinc 2 1, 3) := by decide +kernel
theorem dX4_areRecalled_32 : decode cX4_areRecalled 32 = .ok (.goto (-30), 3) := by decide +kernel
theorem dX4_areRecalled_35 : decode cX4_areRecalled 35 = .ok (.iconst 0, 1) := by decide +kernel
theorem dX4_areRecalled_36 : decode cX4_areRecalled 36 = .ok (.ireturn, 1) := by decide +kernel
set_option maxRecDepth 20000 in
theorem ggX4_build_X4_isNoName : GoodIn wsX4_build wsX4_isNoName := goodIn_r _ [9, 10, 11, 8, 12] (by decide +kernel) (by decide +kernel)
set_option maxRecDepth 20000 in
theorem gX4_build_X4_isNoName : GoodIn wsX4_build (va_wsS RX4 103 yX4_isNoName wsX4_isNoName) := goodIn_app (goodIn_of _ (by decide +kernel)) ggX4_build_X4_isNoName
set_option maxRecDepth 20000 in
theorem ggX4_build_X4_in : GoodIn wsX4_build wsX4_in := goodIn_r _ [12] (by decide +kernel) (by decide +kernel)
set_option maxRecDepth 20000 in
theorem gX4_build_X4_in : GoodIn wsX4_build (va_wsS RX4 72 yX4_in wsX4_in) := goodIn_app (goodIn_of _ (by decide +kernel)) ggX4_build_X4_in
set_option maxRecDepth 20000 in
theorem ggX4_build_X4_areRecalled : GoodIn wsX4_build wsX4_areRecalled := goodIn_r _ [16, 1, 17, 18, 19, 8, 20, 21, 4, 27, 28, 29, 30, 31, 32, 33, 34, 35, 36, 37, 38, 39, 40, 41, 42, 43, 44, 45, 46, 47, 48, 49] (by decide +kernel) (by decide +kernel)
set_option maxRecDepth 20000 in
theorem gX4_build_X4_areRecalled : GoodIn wsX4_build (wsV RX4 109 RX4 yX4_areRecalled wsX4_areRecalled) := goodIn_app (goodIn_of _ (by decide +kernel)) ggX4_build_X4_areRecalled
set_option maxRecDepth 20000 in
theorem ggX4_build_X4_fails : GoodIn wsX4_build wsX4_fails := goodIn_r _ [25, 26, 27, 28, 29, 30, 31, 32, 33, 34, 35, 36, 37, 38, 39, 40, 41, 42, 43, 44, 45, 46, 47, 48, 49] (by decide +kernel) (by decide +kernel)
set_option maxRecDepth 20000 in
theorem gX4_build_X4_fails : GoodIn wsX4_build (wsV RX4 76 RX4 yX4_fails wsX4_fails) := goodIn_app (goodIn_of _ (by decide +kernel)) ggX4_build_X4_fails
theorem dX4_build_0 : decode cX4_build 0 = .ok (.aload_n 0, 1) := by decide +kernel
theorem dX4_build_1 : decode cX4_build 1 = .ok (.iload_n 1, 1) := by decide +kernel
theorem dX4_build_2 : decode cX4_build 2 = .ok (.invokestatic 103, 3) := by decide +kernel
theorem dX4_build_5 : decode cX4_build 5 = .ok (.ifCond .ne 19, 3) := by decide +kernel
theorem dX4_build_8 : decode cX4_build 8 = .ok (.iload_n 2, 1) := by decide +kernel
theorem dX4_build_9 : decode cX4_build 9 = .ok (.iconst 0, 1) := by decide +kernel
theorem dX4_build_10 : decode cX4_build 10 = .ok (.iconst 1, 1) := by decide +kernel
theorem dX4_build_11 : decode cX4_build 11 = .ok (.aload_n 0, 1) := by decide +kernel
theorem dX4_build_12 : decode cX4_build 12 = .ok (.getfield 80, 3) := by decide +kernel
theorem dX4_build_15 : decode cX4_build 15 = .ok (.ishl, 1) := by decide +kernel
theorem dX4_build_16 : decode cX4_build 16 = .ok (.iconst 1, 1) := by decide +kernel
theorem dX4_build_17 : decode cX4_build 17 = .ok (.isub, 1) := by decide +kernel
theorem dX4_build_18 : decode cX4_build 18 = .ok (.invokestatic 72, 3) := by decide +kernel
theorem dX4_build_21 : decode cX4_build 21 = .ok (.ifCond .ne 7, 3) := by decide +kernel
theorem dX4_build_24 : decode cX4_build 24 = .ok (.iconst 1, 1) := by decide +kernel
theorem dX4_build_25 : decode cX4_build 25 = .ok (.goto 29, 3) := by decide +kernel
theorem dX4_build_28 : decode cX4_build 28 = .ok (.aload_n 0, 1) := by decide +kernel
theorem dX4_build_29 : decode cX4_build 29 = .ok (.iload_n 2, 1) := by decide +kernel
theorem dX4_build_30 : decode cX4_build 30 = .ok (.invokevirtual 109, 3) := by decide +kernel
theorem dX4_build_33 : decode cX4_build 33 = .ok (.ifCond .eq 7, 3) := by decide +kernel
theorem dX4_build_36 : decode cX4_build 36 = .ok (.iconst 2, 1) := by decide +kernel
theorem dX4_build_37 : decode cX4_build 37 = .ok (.goto 17, 3) := by decide +kernel
theorem dX4_build_40 : decode cX4_build 40 = .ok (.aload_n 0, 1) := by decide +kernel
theorem dX4_build_41 : decode cX4_build 41 = .ok (.getfield 80, 3) := by decide +kernel
theorem dX4_build_44 : decode cX4_build 44 = .ok (.bipush 24, 2) := by decide +kernel
theorem dX4_build_46 : decode cX4_build 46 = .ok (.if_icmp .ne 7, 3) := by decide +kernel
theorem dX4_build_49 : decode cX4_build 49 = .ok (.iconst 3, 1) := by decide +kernel
theorem dX4_build_50 : decode cX4_build 50 = .ok (.goto 4, 3) := by decide +kernel
theorem dX4_build_53 : decode cX4_build 53 = .ok (.iconst 0, 1) := by decide +kernel
theorem dX4_build_54 : decode cX4_build 54 = .ok (.invokevirtual 76, 3) := by decide +kernel
theorem dX4_build_57 : decode cX4_build 57 = .ok (.ifCond .eq 5, 3) := by decide +kernel
theorem dX4_build_60 : decode cX4_build 60 = .ok (.iconst 0, 1) := by decide +kernel
theorem dX4_build_61 : decode cX4_build 61 = .ok (.ireturn, 1) := by decide +kernel
theorem dX4_build_62 : decode cX4_build 62 = .ok (.aload_n 0, 1) := by decide +kernel
theorem dX4_build_63 : decode cX4_build 63 = .ok (.getfield 29, 3) := by decide +kernel
theorem dX4_build_66 : decode cX4_build 66 = .ok (.aload_n 0, 1) := by decide +kernel
theorem dX4_build_67 : decode cX4_build 67 = .ok (.getfield 80, 3) := by decide +kernel
theorem dX4_build_70 : decode cX4_build 70 = .ok (.iload_n 1, 1) := by decide +kernel
theorem dX4_build_71 : decode cX4_build 71 = .ok (.iastore, 1) := by decide +kernel
theorem dX4_build_72 : decode cX4_build 72 = .ok (.aload_n 0, 1) := by decide +kernel
theorem dX4_build_73 : decode cX4_build 73 = .ok (.getfield 32, 3) := by decide +kernel
theorem dX4_build_76 : decode cX4_build 76 = .ok (.aload_n 0, 1) := by decide +kernel
theorem dX4_build_77 : decode cX4_build 77 = .ok (.getfield 80, 3) := by decide +kernel
theorem dX4_build_80 : decode cX4_build 80 = .ok (.iconst 1, 1) := by decide +kernel
theorem dX4_build_81 : decode cX4_build 81 = .ok (.iastore, 1) := by decide +kernel
theorem dX4_build_82 : decode cX4_build 82 = .ok (.aload_n 0, 1) := by decide +kernel
theorem dX4_build_83 : decode cX4_build 83 = .ok (.getfield 35, 3) := by decide +kernel
theorem dX4_build_86 : decode cX4_build 86 = .ok (.aload_n 0, 1) := by decide +kernel
theorem dX4_build_87 : decode cX4_build 87 = .ok (.getfield 80, 3) := by decide +kernel
theorem dX4_build_90 : decode cX4_build 90 = .ok (.iload_n 2, 1) := by decide +kernel
theorem dX4_build_91 : decode cX4_build 91 = .ok (.iastore, 1) := by decide +kernel
theorem dX4_build_92 : decode cX4_build 92 = .ok (.iconst 0, 1) := by decide +kernel
theorem dX4_build_93 : decode cX4_build 93 = .ok (.istore 4, 2) := by decide +kernel
theorem dX4_build_95 : decode cX4_build 95 = .ok (.iload 4, 2) := by decide +kernel
theorem dX4_build_97 : decode cX4_build 97 = .ok (.aload_n 0, 1) := by decide +kernel
theorem dX4_build_98 : decode cX4_build 98 = .ok (.getfield 80, 3) := by decide +kernel
theorem dX4_build_101 : decode cX4_build 101 = .ok (.if_icmp .ge 62, 3) := by decide +kernel
theorem dX4_build_104 : decode cX4_build 104 = .ok (.aload_n 0, 1) := by decide +kernel
theorem dX4_build_105 : decode cX4_build 105 = .ok (.getfield 29, 3) := by decide +kernel
theorem dX4_build_108 : decode cX4_build 108 = .ok (.iload 4, 2) := by decide +kernel
theorem dX4_build_110 : decode cX4_build 110 = .ok (.iaload, 1) := by decide +kernel
theorem dX4_build_111 : decode cX4_build 111 = .ok (.iload_n 1, 1) := by decide +kernel
theorem dX4_build_112 : decode cX4_build 112 = .ok (.if_icmp .ne 16, 3) := by decide +kernel
theorem dX4_build_115 : decode cX4_build 115 = .ok (.aload_n 0, 1) := by decide +kernel
theorem dX4_build_116 : decode cX4_build 116 = .ok (.getfield 32, 3) := by decide +kernel
theorem dX4_build_119 : decode cX4_build 119 = .ok (.aload_n 0, 1) := by decide +kernel
theorem dX4_build_120 : decode cX4_build 120 = .ok (.getfield 80, 3) := by decide +kernel
theorem dX4_build_123 : decode cX4_build 123 = .ok (.dup2, 1) := by decide +kernel
theorem dX4_build_124 : decode cX4_build 124 = .ok (.iaload, 1) := by decide +kernel
theorem dX4_build_125 : decode cX4_build 125 = .ok (.iconst 1, 1) := by decide +kernel
theorem dX4_build_126 : decode cX4_build 126 = .ok (.iadd, 1) := by decide +kernel
theorem dX4_build_127 : decode cX4_build 127 = .ok (.iastore, 1) := by decide +kernel
theorem dX4_build_128 : decode cX4_build 128 = .ok (.iload_n 2, 1) := by decide +kernel
theorem dX4_build_129 : decode cX4_build 129 = .ok (.iload 4, 2) := by decide +kernel
theorem dX4_build_131 : decode cX4_build 131 = .ok (.ishr, 1) := by decide +kernel
theorem dX4_build_132 : decode cX4_build 132 = .ok (.iconst 1, 1) := by decide +kernel
theorem dX4_build_133 : decode cX4_build 133 = .ok (.iand, 1) := by decide +kernel
theorem dX4_build_134 : decode cX4_build 134 = .ok (.iconst 1, 1) := by decide +kernel
theorem dX4_build_135 : decode cX4_build 135 = .ok (.if_icmp .ne 22, 3) := by decide +kernel
theorem dX4_build_138 : decode cX4_build 138 = .ok (.aload_n 0, 1) := by decide +kernel
theorem dX4_build_139 : decode cX4_build 139 = .ok (.getfield 35, 3) := by decide +kernel
theorem dX4_build_142 : decode cX4_build 142 = .ok (.aload_n 0, 1) := by decide +kernel
theorem dX4_build_143 : decode cX4_build 143 = .ok (.getfield 80, 3) := by decide +kernel
theorem dX4_build_146 : decode cX4_build 146 = .ok (.dup2, 1) := by decide +kernel
theorem dX4_build_147 : decode cX4_build 147 = .ok (.iaload, 1) := by decide +kernel
theorem dX4_build_148 : decode cX4_build 148 = .ok (.aload_n 0, 1) := by decide +kernel
theorem dX4_build_149 : decode cX4_build 149 = .ok (.getfield 35, 3) := by decide +kernel
theorem dX4_build_152 : decode cX4_build 152 = .ok (.iload 4, 2) := by decide +kernel
theorem dX4_build_154 : decode cX4_build 154 = .ok (.iaload, 1) := by decide +kernel
theorem dX4_build_155 : decode cX4_build 155 = .ok (.ior, 1) := by decide +kernel
theorem dX4_build_156 : decode cX4_build 156 = .ok (.iastore, 1) := by decide +kernel
theorem dX4_build_157 : decode cX4_build 157 = .ok (.iinc 4 1, 3) := by decide +kernel
theorem dX4_build_160 : decode cX4_build 160 = .ok (.goto (-65), 3) := by decide +kernel
theorem dX4_build_163 : decode cX4_build 163 = .ok (.aload_n 0, 1) := by decide +kernel
theorem dX4_build_164 : decode cX4_build 164 = .ok (.getfield 38, 3) := by decide +kernel
theorem dX4_build_167 : decode cX4_build 167 = .ok (.aload_n 0, 1) := by decide +kernel
theorem dX4_build_168 : decode cX4_build 168 = .ok (.getfield 80, 3) := by decide +kernel
theorem dX4_build_171 : decode cX4_build 171 = .ok (.iload_n 3, 1) := by decide +kernel
theorem dX4_build_172 : decode cX4_build 172 = .ok (.iastore, 1) := by decide +kernel
theorem dX4_build_173 : decode cX4_build 173 = .ok (.aload_n 0, 1) := by decide +kernel
theorem dX4_build_174 : decode cX4_build 174 = .ok (.dup, 1) := by decide +kernel
theorem dX4_build_175 : decode cX4_build 175 = .ok (.getfield 80, 3) := by decide +kernel
theorem dX4_build_178 : decode cX4_build 178 = .ok (.iconst 1, 1) := by decide +kernel
theorem dX4_build_179 : decode cX4_build 179 = .ok (.iadd, 1) := by decide +kernel
theorem dX4_build_180 : decode cX4_build 180 = .ok (.putfield 80, 3) := by decide +kernel
theorem dX4_build_183 : decode cX4_build 183 = .ok (.aload_n 0, 1) := by decide +kernel
theorem dX4_build_184 : decode cX4_build 184 = .ok (.getfield 80, 3) := by decide +kernel
theorem dX4_build_187 : decode cX4_build 187 = .ok (.iconst 1, 1) := by decide +kernel
theorem dX4_build_188 : decode cX4_build 188 = .ok (.isub, 1) := by decide +kernel
theorem dX4_build_189 : decode cX4_build 189 = .ok (.ireturn, 1) := by decide +kernel
set_option maxRecDepth 20000 in
theorem ggX4_nameOf_X4_isNoBuild : GoodIn wsX4_nameOf wsX4_isNoBuild := goodIn_r _ [6, 7, 8, 9, 5, 10, 11, 12, 13, 14, 15, 16, 17, 18, 19, 20, 21, 22, 23, 24, 25, 26, 27, 28, 29, 30, 31, 32, 33, 34, 35, 36, 37, 38] (by decide +kernel) (by decide +kernel)
set_option maxRecDepth 20000 in
theorem gX4_nameOf_X4_isNoBuild : GoodIn wsX4_nameOf (wsV RX4 112 RX4 yX4_isNoBuild wsX4_isNoBuild) := goodIn_app (goodIn_of _ (by decide +kernel)) ggX4_nameOf_X4_isNoBuild
theorem dX4_nameOf_0 : decode cX4_nameOf 0 = .ok (.aload_n 0, 1) := by decide +kernel
theorem dX4_nameOf_1 : decode cX4_nameOf 1 = .ok (.iload_n 1, 1) := by decide +kernel
theorem dX4_nameOf_2 : decode cX4_nameOf 2 = .ok (.invokevirtual 112, 3) := by decide +kernel
theorem dX4_nameOf_5 : decode cX4_nameOf 5 = .ok (.ifCond .eq 7, 3) := by decide +kernel
theorem dX4_nameOf_8 : decode cX4_nameOf 8 = .ok (.iconst 0, 1) := by decide +kernel
theorem dX4_nameOf_9 : decode cX4_nameOf 9 = .ok (.goto 9, 3) := by decide +kernel
theorem dX4_nameOf_12 : decode cX4_nameOf 12 = .ok (.aload_n 0, 1) := by decide +kernel
theorem dX4_nameOf_13 : decode cX4_nameOf 13 = .ok (.getfield 29, 3) := by decide +kernel
theorem dX4_nameOf_16 : decode cX4_nameOf 16 = .ok (.iload_n 1, 1) := by decide +kernel
theorem dX4_nameOf_17 : decode cX4_nameOf 17 = .ok (.iaload, 1) := by decide +kernel
theorem dX4_nameOf_18 : decode cX4_nameOf 18 = .ok (.ireturn, 1) := by decide +kernel
set_option maxRecDepth 20000 in
theorem ggX4_version_X4_isNoBuild : GoodIn wsX4_version wsX4_isNoBuild := goodIn_r _ [6, 7, 8, 9, 5, 10, 11, 12, 13, 14, 15, 16, 17, 18, 19, 20, 21, 22, 23, 24, 25, 26, 27, 28, 29, 30, 31, 32, 33, 34, 35, 36, 37, 38] (by decide +kernel) (by decide +kernel)
set_option maxRecDepth 20000 in
theorem gX4_version_X4_isNoBuild : GoodIn wsX4_version (wsV RX4 112 RX4 yX4_isNoBuild wsX4_isNoBuild) := goodIn_app (goodIn_of _ (by decide +kernel)) ggX4_version_X4_isNoBuild
theorem dX4_version_0 : decode cX4_version 0 = .ok (.aload_n 0, 1) := by decide +kernel
theorem dX4_version_1 : decode cX4_version 1 = .ok (.iload_n 1, 1) := by decide +kernel
theorem dX4_version_2 : decode cX4_version 2 = .ok (.invokevirtual 112, 3) := by decide +kernel
theorem dX4_version_5 : decode cX4_version 5 = .ok (.ifCond .eq 7, 3) := by decide +kernel
theorem dX4_version_8 : decode cX4_version 8 = .ok (.iconst 0, 1) := by decide +kernel
theorem dX4_version_9 : decode cX4_version 9 = .ok (.goto 9, 3) := by decide +kernel
theorem dX4_version_12 : decode cX4_version 12 = .ok (.aload_n 0, 1) := by decide +kernel
theorem dX4_version_13 : decode cX4_version 13 = .ok (.getfield 32, 3) := by decide +kernel
theorem dX4_version_16 : decode cX4_version 16 = .ok (.iload_n 1, 1) := by decide +kernel
theorem dX4_version_17 : decode cX4_version 17 = .ok (.iaload, 1) := by decide +kernel
theorem dX4_version_18 : decode cX4_version 18 = .ok (.ireturn, 1) := by decide +kernel
set_option maxRecDepth 20000 in
theorem ggX4_uses_X4_in : GoodIn wsX4_uses wsX4_in := goodIn_r _ [6] (by decide +kernel) (by decide +kernel)
set_option maxRecDepth 20000 in
theorem gX4_uses_X4_in : GoodIn wsX4_uses (va_wsS RX4 72 yX4_in wsX4_in) := goodIn_app (goodIn_of _ (by decide +kernel)) ggX4_uses_X4_in
set_option maxRecDepth 20000 in
theorem ggX4_uses_X4_fails : GoodIn wsX4_uses wsX4_fails := goodIn_r _ [10, 11, 12, 13, 14, 15, 16, 17, 18, 19, 20, 21, 22, 23, 24, 25, 26, 27, 28, 29, 30, 31, 32, 33, 34] (by decide +kernel) (by decide +kernel)
set_option maxRecDepth 20000 in
theorem gX4_uses_X4_fails : GoodIn wsX4_uses (wsV RX4 76 RX4 yX4_fails wsX4_fails) := goodIn_app (goodIn_of _ (by decide +kernel)) ggX4_uses_X4_fails
theorem dX4_uses_0 : decode cX4_uses 0 = .ok (.aload_n 0, 1) := by decide +kernel
theorem dX4_uses_1 : decode cX4_uses 1 = .ok (.iload_n 1, 1) := by decide +kernel
theorem dX4_uses_2 : decode cX4_uses 2 = .ok (.iconst 0, 1) := by decide +kernel
theorem dX4_uses_3 : decode cX4_uses 3 = .ok (.aload_n 0, 1) := by decide +kernel
theorem dX4_uses_4 : decode cX4_uses 4 = .ok (.getfield 80, 3) := by decide +kernel
theorem dX4_uses_7 : decode cX4_uses 7 = .ok (.iconst 1, 1) := by decide +kernel
theorem dX4_uses_8 : decode cX4_uses 8 = .ok (.isub, 1) := by decide +kernel
theorem dX4_uses_9 : decode cX4_uses 9 = .ok (.invokestatic 72, 3) := by decide +kernel
theorem dX4_uses_12 : decode cX4_uses 12 = .ok (.ifCond .eq 21, 3) := by decide +kernel
theorem dX4_uses_15 : decode cX4_uses 15 = .ok (.iload_n 2, 1) := by decide +kernel
theorem dX4_uses_16 : decode cX4_uses 16 = .ok (.iconst 0, 1) := by decide +kernel
theorem dX4_uses_17 : decode cX4_uses 17 = .ok (.aload_n 0, 1) := by decide +kernel
theorem dX4_uses_18 : decode cX4_uses 18 = .ok (.getfield 80, 3) := by decide +kernel
theorem dX4_uses_21 : decode cX4_uses 21 = .ok (.iconst 1, 1) := by decide +kernel
theorem dX4_uses_22 : decode cX4_uses 22 = .ok (.isub, 1) := by decide +kernel
theorem dX4_uses_23 : decode cX4_uses 23 = .ok (.invokestatic 72, 3) := by decide +kernel
theorem dX4_uses_26 : decode cX4_uses 26 = .ok (.ifCond .eq 7, 3) := by decide +kernel
theorem dX4_uses_29 : decode cX4_uses 29 = .ok (.iconst 0, 1) := by decide +kernel
theorem dX4_uses_30 : decode cX4_uses 30 = .ok (.goto 4, 3) := by decide +kernel
theorem dX4_uses_33 : decode cX4_uses 33 = .ok (.iconst 1, 1) := by decide +kernel
theorem dX4_uses_34 : decode cX4_uses 34 = .ok (.invokevirtual 76, 3) := by decide +kernel
theorem dX4_uses_37 : decode cX4_uses 37 = .ok (.ifCond .ne 21, 3) := by decide +kernel
theorem dX4_uses_40 : decode cX4_uses 40 = .ok (.aload_n 0, 1) := by decide +kernel
theorem dX4_uses_41 : decode cX4_uses 41 = .ok (.getfield 35, 3) := by decide +kernel
theorem dX4_uses_44 : decode cX4_uses 44 = .ok (.iload_n 1, 1) := by decide +kernel
theorem dX4_uses_45 : decode cX4_uses 45 = .ok (.iaload, 1) := by decide +kernel
theorem dX4_uses_46 : decode cX4_uses 46 = .ok (.iload_n 2, 1) := by decide +kernel
theorem dX4_uses_47 : decode cX4_uses 47 = .ok (.ishr, 1) := by decide +kernel
theorem dX4_uses_48 : decode cX4_uses 48 = .ok (.iconst 1, 1) := by decide +kernel
theorem dX4_uses_49 : decode cX4_uses 49 = .ok (.iand, 1) := by decide +kernel
theorem dX4_uses_50 : decode cX4_uses 50 = .ok (.iconst 1, 1) := by decide +kernel
theorem dX4_uses_51 : decode cX4_uses 51 = .ok (.if_icmp .ne 7, 3) := by decide +kernel
theorem dX4_uses_54 : decode cX4_uses 54 = .ok (.iconst 1, 1) := by decide +kernel
theorem dX4_uses_55 : decode cX4_uses 55 = .ok (.goto 4, 3) := by decide +kernel
theorem dX4_uses_58 : decode cX4_uses 58 = .ok (.iconst 0, 1) := by decide +kernel
theorem dX4_uses_59 : decode cX4_uses 59 = .ok (.ireturn, 1) := by decide +kernel
set_option maxRecDepth 20000 in
theorem ggX4_used_X4_isNoBuild : GoodIn wsX4_used wsX4_isNoBuild := goodIn_r _ [6, 7, 8, 9, 5, 10, 11, 12, 13, 14, 15, 19, 20, 21, 22, 23, 24, 25, 26, 27, 28, 29, 30, 31, 32, 33, 34, 35, 36, 37, 38, 39, 40, 41] (by decide +kernel) (by decide +kernel)
set_option maxRecDepth 20000 in
theorem gX4_used_X4_isNoBuild : GoodIn wsX4_used (wsV RX4 112 RX4 yX4_isNoBuild wsX4_isNoBuild) := goodIn_app (goodIn_of _ (by decide +kernel)) ggX4_used_X4_isNoBuild
set_option maxRecDepth 20000 in
theorem ggX4_used_X4_bits : GoodIn wsX4_used wsX4_bits := goodIn_r _ [18] (by decide +kernel) (by decide +kernel)
set_option maxRecDepth 20000 in
theorem gX4_used_X4_bits : GoodIn wsX4_used (va_wsS RX4 96 yX4_bits wsX4_bits) := goodIn_app (goodIn_of _ (by decide +kernel)) ggX4_used_X4_bits
theorem dX4_used_0 : decode cX4_used 0 = .ok (.aload_n 0, 1) := by decide +kernel
theorem dX4_used_1 : decode cX4_used 1 = .ok (.iload_n 1, 1) := by decide +kernel
theorem dX4_used_2 : decode cX4_used 2 = .ok (.invokevirtual 112, 3) := by decide +kernel
theorem dX4_used_5 : decode cX4_used 5 = .ok (.ifCond .eq 7, 3) := by decide +kernel
theorem dX4_used_8 : decode cX4_used 8 = .ok (.iconst 0, 1) := by decide +kernel
theorem dX4_used_9 : decode cX4_used 9 = .ok (.goto 12, 3) := by decide +kernel
theorem dX4_used_12 : decode cX4_used 12 = .ok (.aload_n 0, 1) := by decide +kernel
theorem dX4_used_13 : decode cX4_used 13 = .ok (.getfield 35, 3) := by decide +kernel
theorem dX4_used_16 : decode cX4_used 16 = .ok (.iload_n 1, 1) := by decide +kernel
theorem dX4_used_17 : decode cX4_used 17 = .ok (.iaload, 1) := by decide +kernel
theorem dX4_used_18 : decode cX4_used 18 = .ok (.invokestatic 96, 3) := by decide +kernel
theorem dX4_used_21 : decode cX4_used 21 = .ok (.ireturn, 1) := by decide +kernel
theorem dX4_greatest_0 : decode cX4_greatest 0 = .ok (.iconst (-1), 1) := by decide +kernel
theorem dX4_greatest_1 : decode cX4_greatest 1 = .ok (.istore_n 3, 1) := by decide +kernel
theorem dX4_greatest_2 : decode cX4_greatest 2 = .ok (.iconst 0, 1) := by decide +kernel
theorem dX4_greatest_3 : decode cX4_greatest 3 = .ok (.istore 4, 2) := by decide +kernel
theorem dX4_greatest_5 : decode cX4_greatest 5 = .ok (.iload 4, 2) := by decide +kernel
theorem dX4_greatest_7 : decode cX4_greatest 7 = .ok (.aload_n 0, 1) := by decide +kernel
theorem dX4_greatest_8 : decode cX4_greatest 8 = .ok (.getfield 80, 3) := by decide +kernel
theorem dX4_greatest_11 : decode cX4_greatest 11 = .ok (.if_icmp .ge 33, 3) := by decide +kernel
theorem dX4_greatest_14 : decode cX4_greatest 14 = .ok (.aload_n 0, 1) := by decide +kernel
theorem dX4_greatest_15 : decode cX4_greatest 15 = .ok (.getfield 29, 3) := by decide +kernel
theorem dX4_greatest_18 : decode cX4_greatest 18 = .ok (.iload 4, 2) := by decide +kernel
theorem dX4_greatest_20 : decode cX4_greatest 20 = .ok (.iaload, 1) := by decide +kernel
theorem dX4_greatest_21 : decode cX4_greatest 21 = .ok (.iload_n 1, 1) := by decide +kernel
theorem dX4_greatest_22 : decode cX4_greatest 22 = .ok (.if_icmp .ne 16, 3) := by decide +kernel
theorem dX4_greatest_25 : decode cX4_greatest 25 = .ok (.iload_n 2, 1) := by decide +kernel
theorem dX4_greatest_26 : decode cX4_greatest 26 = .ok (.iload 4, 2) := by decide +kernel
theorem dX4_greatest_28 : decode cX4_greatest 28 = .ok (.ishr, 1) := by decide +kernel
theorem dX4_greatest_29 : decode cX4_greatest 29 = .ok (.iconst 1, 1) := by decide +kernel
theorem dX4_greatest_30 : decode cX4_greatest 30 = .ok (.iand, 1) := by decide +kernel
theorem dX4_greatest_31 : decode cX4_greatest 31 = .ok (.iconst 1, 1) := by decide +kernel
theorem dX4_greatest_32 : decode cX4_greatest 32 = .ok (.if_icmp .ne 6, 3) := by decide +kernel
theorem dX4_greatest_35 : decode cX4_greatest 35 = .ok (.iload 4, 2) := by decide +kernel
theorem dX4_greatest_37 : decode cX4_greatest 37 = .ok (.istore_n 3, 1) := by decide +kernel
theorem dX4_greatest_38 : decode cX4_greatest 38 = .ok (.iinc 4 1, 3) := by decide +kernel
theorem dX4_greatest_41 : decode cX4_greatest 41 = .ok (.goto (-36), 3) := by decide +kernel
theorem dX4_greatest_44 : decode cX4_greatest 44 = .ok (.iload_n 3, 1) := by decide +kernel
theorem dX4_greatest_45 : decode cX4_greatest 45 = .ok (.ireturn, 1) := by decide +kernel
set_option maxRecDepth 20000 in
theorem ggX4_newest_X4_isNoName : GoodIn wsX4_newest wsX4_isNoName := goodIn_r _ [4, 5, 6, 3, 7] (by decide +kernel) (by decide +kernel)
set_option maxRecDepth 20000 in
theorem gX4_newest_X4_isNoName : GoodIn wsX4_newest (va_wsS RX4 103 yX4_isNoName wsX4_isNoName) := goodIn_app (goodIn_of _ (by decide +kernel)) ggX4_newest_X4_isNoName
set_option maxRecDepth 20000 in
theorem ggX4_newest_X4_fails : GoodIn wsX4_newest wsX4_fails := goodIn_r _ [11, 12, 63, 64, 65, 66, 67, 68, 69, 70, 71, 72, 73, 74, 75, 76, 77, 78, 79, 80, 81, 82, 83, 84, 85] (by decide +kernel) (by decide +kernel)
set_option maxRecDepth 20000 in
theorem gX4_newest_X4_fails : GoodIn wsX4_newest (wsV RX4 76 RX4 yX4_fails wsX4_fails) := goodIn_app (goodIn_of _ (by decide +kernel)) ggX4_newest_X4_fails
set_option maxRecDepth 20000 in
theorem ggX4_newest_X4_trusted : GoodIn wsX4_newest wsX4_trusted := goodIn_r _ [16, 17, 18, 19, 3, 20, 21, 22, 23, 24, 25, 26, 27, 28, 29, 30, 31, 32, 33, 34, 35, 36, 37, 38, 39, 40, 41, 42, 43, 44, 45, 46, 47, 48, 5, 6, 7, 63, 64, 65, 66, 67, 68, 69, 70, 71, 72, 73, 74, 75, 76, 77, 78, 79, 80, 81, 82, 83, 84, 85] (by decide +kernel) (by decide +kernel)
set_option maxRecDepth 20000 in
theorem gX4_newest_X4_trusted : GoodIn wsX4_newest (wsV RX4 92 RX4 yX4_trusted wsX4_trusted) := goodIn_app (goodIn_of _ (by decide +kernel)) ggX4_newest_X4_trusted
set_option maxRecDepth 20000 in
theorem ggX4_newest_X4_recalled : GoodIn wsX4_newest wsX4_recalled := goodIn_r _ [52, 21, 53, 54, 55, 3, 56, 57, 58, 63, 64, 65, 66, 67, 68, 69, 70, 71, 72, 73, 74, 75, 76, 77, 78, 79, 80, 81, 82, 83, 84, 85] (by decide +kernel) (by decide +kernel)
set_option maxRecDepth 20000 in
theorem gX4_newest_X4_recalled : GoodIn wsX4_newest (wsV RX4 115 RX4 yX4_recalled wsX4_recalled) := goodIn_app (goodIn_of _ (by decide +kernel)) ggX4_newest_X4_recalled
set_option maxRecDepth 20000 in
theorem ggX4_newest_X4_greatest : GoodIn wsX4_newest wsX4_greatest := goodIn_r _ [62, 21, 27, 63, 64, 65, 66, 67, 68, 69, 70, 71, 72, 73, 74, 75, 76, 77, 78, 79, 80, 81, 82, 83, 84, 85] (by decide +kernel) (by decide +kernel)
set_option maxRecDepth 20000 in
theorem gX4_newest_X4_greatest : GoodIn wsX4_newest (wsV RX4 118 RX4 yX4_greatest wsX4_greatest) := goodIn_app (goodIn_of _ (by decide +kernel)) ggX4_newest_X4_greatest
theorem dX4_newest_0 : decode cX4_newest 0 = .ok (.aload_n 0, 1) := by decide +kernel
theorem dX4_newest_1 : decode cX4_newest 1 = .ok (.iload_n 1, 1) := by decide +kernel
theorem dX4_newest_2 : decode cX4_newest 2 = .ok (.invokestatic 103, 3) := by decide +kernel
theorem dX4_newest_5 : decode cX4_newest 5 = .ok (.ifCond .eq 7, 3) := by decide +kernel
theorem dX4_newest_8 : decode cX4_newest 8 = .ok (.iconst 1, 1) := by decide +kernel
theorem dX4_newest_9 : decode cX4_newest 9 = .ok (.goto 4, 3) := by decide +kernel
theorem dX4_newest_12 : decode cX4_newest 12 = .ok (.iconst 0, 1) := by decide +kernel
theorem dX4_newest_13 : decode cX4_newest 13 = .ok (.invokevirtual 76, 3) := by decide +kernel
theorem dX4_newest_16 : decode cX4_newest 16 = .ok (.ifCond .eq 5, 3) := by decide +kernel
theorem dX4_newest_19 : decode cX4_newest 19 = .ok (.iconst 0, 1) := by decide +kernel
theorem dX4_newest_20 : decode cX4_newest 20 = .ok (.ireturn, 1) := by decide +kernel
theorem dX4_newest_21 : decode cX4_newest 21 = .ok (.aload_n 0, 1) := by decide +kernel
theorem dX4_newest_22 : decode cX4_newest 22 = .ok (.iload_n 1, 1) := by decide +kernel
theorem dX4_newest_23 : decode cX4_newest 23 = .ok (.aload_n 0, 1) := by decide +kernel
theorem dX4_newest_24 : decode cX4_newest 24 = .ok (.invokevirtual 92, 3) := by decide +kernel
theorem dX4_newest_27 : decode cX4_newest 27 = .ok (.aload_n 0, 1) := by decide +kernel
theorem dX4_newest_28 : decode cX4_newest 28 = .ok (.invokevirtual 115, 3) := by decide +kernel
theorem dX4_newest_31 : decode cX4_newest 31 = .ok (.iconst (-1), 1) := by decide +kernel
theorem dX4_newest_32 : decode cX4_newest 32 = .ok (.ixor, 1) := by decide +kernel
theorem dX4_newest_33 : decode cX4_newest 33 = .ok (.iand, 1) := by decide +kernel
theorem dX4_newest_34 : decode cX4_newest 34 = .ok (.invokevirtual 118, 3) := by decide +kernel
theorem dX4_newest_37 : decode cX4_newest 37 = .ok (.istore_n 2, 1) := by decide +kernel
theorem dX4_newest_38 : decode cX4_newest 38 = .ok (.aload_n 0, 1) := by decide +kernel
theorem dX4_newest_39 : decode cX4_newest 39 = .ok (.iload_n 2, 1) := by decide +kernel
theorem dX4_newest_40 : decode cX4_newest 40 = .ok (.ifCond .ge 7, 3) := by decide +kernel
theorem dX4_newest_43 : decode cX4_newest 43 = .ok (.iconst 2, 1) := by decide +kernel
theorem dX4_newest_44 : decode cX4_newest 44 = .ok (.goto 4, 3) := by decide +kernel
theorem dX4_newest_47 : decode cX4_newest 47 = .ok (.iconst 0, 1) := by decide +kernel
theorem dX4_newest_48 : decode cX4_newest 48 = .ok (.invokevirtual 76, 3) := by decide +kernel
theorem dX4_newest_51 : decode cX4_newest 51 = .ok (.ifCond .eq 7, 3) := by decide +kernel
theorem dX4_newest_54 : decode cX4_newest 54 = .ok (.iconst 0, 1) := by decide +kernel
theorem dX4_newest_55 : decode cX4_newest 55 = .ok (.goto 4, 3) := by decide +kernel
theorem dX4_newest_58 : decode cX4_newest 58 = .ok (.iload_n 2, 1) := by decide +kernel
theorem dX4_newest_59 : decode cX4_newest 59 = .ok (.ireturn, 1) := by decide +kernel
set_option maxRecDepth 20000 in
theorem ggX4_attest_X4_in : GoodIn wsX4_attest wsX4_in := goodIn_r _ [7] (by decide +kernel) (by decide +kernel)
set_option maxRecDepth 20000 in
theorem gX4_attest_X4_in : GoodIn wsX4_attest (va_wsS RX4 72 yX4_in wsX4_in) := goodIn_app (goodIn_of _ (by decide +kernel)) ggX4_attest_X4_in
set_option maxRecDepth 20000 in
theorem ggX4_attest_X4_fails : GoodIn wsX4_attest wsX4_fails := goodIn_r _ [11, 12, 30, 31, 32, 33, 34, 35, 36, 37, 38, 39, 40, 41, 42, 43, 44, 45, 46, 47, 48, 49, 50, 51, 52] (by decide +kernel) (by decide +kernel)
set_option maxRecDepth 20000 in
theorem gX4_attest_X4_fails : GoodIn wsX4_attest (wsV RX4 76 RX4 yX4_fails wsX4_fails) := goodIn_app (goodIn_of _ (by decide +kernel)) ggX4_attest_X4_fails
set_option maxRecDepth 20000 in
theorem ggX4_attest_X4_lives : GoodIn wsX4_attest wsX4_lives := goodIn_r _ [16, 17, 18, 19, 20, 4, 5, 6, 7, 30, 31, 32, 33, 34, 35, 36, 37, 38, 39, 40, 41, 42, 43, 44, 45, 46, 47, 48, 49, 50, 51, 52] (by decide +kernel) (by decide +kernel)
set_option maxRecDepth 20000 in
theorem gX4_attest_X4_lives : GoodIn wsX4_attest (wsV RX4 100 RX4 yX4_lives wsX4_lives) := goodIn_app (goodIn_of _ (by decide +kernel)) ggX4_attest_X4_lives
set_option maxRecDepth 20000 in
theorem ggX4_attest_X4_isGone : GoodIn wsX4_attest wsX4_isGone := goodIn_r _ [24, 25, 26, 30, 31, 32, 33, 34, 35, 36, 37, 38, 39, 40, 41, 42, 43, 44, 45, 46, 47, 48, 49, 50, 51, 52] (by decide +kernel) (by decide +kernel)
set_option maxRecDepth 20000 in
theorem gX4_attest_X4_isGone : GoodIn wsX4_attest (wsV RX4 106 RX4 yX4_isGone wsX4_isGone) := goodIn_app (goodIn_of _ (by decide +kernel)) ggX4_attest_X4_isGone
set_option maxRecDepth 20000 in
theorem ggX4_attest_X4_bits : GoodIn wsX4_attest wsX4_bits := goodIn_r _ [29] (by decide +kernel) (by decide +kernel)
set_option maxRecDepth 20000 in
theorem gX4_attest_X4_bits : GoodIn wsX4_attest (va_wsS RX4 96 yX4_bits wsX4_bits) := goodIn_app (goodIn_of _ (by decide +kernel)) ggX4_attest_X4_bits
theorem dX4_attest_0 : decode cX4_attest 0 = .ok (.aload_n 0, 1) := by decide +kernel
theorem dX4_attest_1 : decode cX4_attest 1 = .ok (.iload_n 1, 1) := by decide +kernel
theorem dX4_attest_2 : decode cX4_attest 2 = .ok (.iconst 0, 1) := by decide +kernel
theorem dX4_attest_3 : decode cX4_attest 3 = .ok (.aload_n 0, 1) := by decide +kernel
theorem dX4_attest_4 : decode cX4_attest 4 = .ok (.getfield 80, 3) := by decide +kernel
theorem dX4_attest_7 : decode cX4_attest 7 = .ok (.iconst 1, 1) := by decide +kernel
theorem dX4_attest_8 : decode cX4_attest 8 = .ok (.isub, 1) := by decide +kernel
theorem dX4_attest_9 : decode cX4_attest 9 = .ok (.invokestatic 72, 3) := by decide +kernel
theorem dX4_attest_12 : decode cX4_attest 12 = .ok (.ifCond .eq 17, 3) := by decide +kernel
theorem dX4_attest_15 : decode cX4_attest 15 = .ok (.iload_n 2, 1) := by decide +kernel
theorem dX4_attest_16 : decode cX4_attest 16 = .ok (.iconst 0, 1) := by decide +kernel
theorem dX4_attest_17 : decode cX4_attest 17 = .ok (.aload_n 0, 1) := by decide +kernel
theorem dX4_attest_18 : decode cX4_attest 18 = .ok (.getfield 69, 3) := by decide +kernel
theorem dX4_attest_21 : decode cX4_attest 21 = .ok (.iconst 1, 1) := by decide +kernel
theorem dX4_attest_22 : decode cX4_attest 22 = .ok (.isub, 1) := by decide +kernel
theorem dX4_attest_23 : decode cX4_attest 23 = .ok (.invokestatic 72, 3) := by decide +kernel
theorem dX4_attest_26 : decode cX4_attest 26 = .ok (.ifCond .ne 7, 3) := by decide +kernel
theorem dX4_attest_29 : decode cX4_attest 29 = .ok (.iconst 1, 1) := by decide +kernel
theorem dX4_attest_30 : decode cX4_attest 30 = .ok (.goto 4, 3) := by decide +kernel
theorem dX4_attest_33 : decode cX4_attest 33 = .ok (.iconst 0, 1) := by decide +kernel
theorem dX4_attest_34 : decode cX4_attest 34 = .ok (.invokevirtual 76, 3) := by decide +kernel
theorem dX4_attest_37 : decode cX4_attest 37 = .ok (.ifCond .eq 5, 3) := by decide +kernel
theorem dX4_attest_40 : decode cX4_attest 40 = .ok (.iconst 0, 1) := by decide +kernel
theorem dX4_attest_41 : decode cX4_attest 41 = .ok (.ireturn, 1) := by decide +kernel
theorem dX4_attest_42 : decode cX4_attest 42 = .ok (.aload_n 0, 1) := by decide +kernel
theorem dX4_attest_43 : decode cX4_attest 43 = .ok (.aload_n 0, 1) := by decide +kernel
theorem dX4_attest_44 : decode cX4_attest 44 = .ok (.iload_n 2, 1) := by decide +kernel
theorem dX4_attest_45 : decode cX4_attest 45 = .ok (.invokevirtual 100, 3) := by decide +kernel
theorem dX4_attest_48 : decode cX4_attest 48 = .ok (.ifCond .eq 17, 3) := by decide +kernel
theorem dX4_attest_51 : decode cX4_attest 51 = .ok (.aload_n 0, 1) := by decide +kernel
theorem dX4_attest_52 : decode cX4_attest 52 = .ok (.getfield 41, 3) := by decide +kernel
theorem dX4_attest_55 : decode cX4_attest 55 = .ok (.iload_n 1, 1) := by decide +kernel
theorem dX4_attest_56 : decode cX4_attest 56 = .ok (.iaload, 1) := by decide +kernel
theorem dX4_attest_57 : decode cX4_attest 57 = .ok (.iload_n 2, 1) := by decide +kernel
theorem dX4_attest_58 : decode cX4_attest 58 = .ok (.ishr, 1) := by decide +kernel
theorem dX4_attest_59 : decode cX4_attest 59 = .ok (.iconst 1, 1) := by decide +kernel
theorem dX4_attest_60 : decode cX4_attest 60 = .ok (.iand, 1) := by decide +kernel
theorem dX4_attest_61 : decode cX4_attest 61 = .ok (.iconst 1, 1) := by decide +kernel
theorem dX4_attest_62 : decode cX4_attest 62 = .ok (.if_icmp .ne 7, 3) := by decide +kernel
theorem dX4_attest_65 : decode cX4_attest 65 = .ok (.iconst 2, 1) := by decide +kernel
theorem dX4_attest_66 : decode cX4_attest 66 = .ok (.goto 16, 3) := by decide +kernel
theorem dX4_attest_69 : decode cX4_attest 69 = .ok (.aload_n 0, 1) := by decide +kernel
theorem dX4_attest_70 : decode cX4_attest 70 = .ok (.iload_n 1, 1) := by decide +kernel
theorem dX4_attest_71 : decode cX4_attest 71 = .ok (.invokevirtual 106, 3) := by decide +kernel
theorem dX4_attest_74 : decode cX4_attest 74 = .ok (.ifCond .eq 7, 3) := by decide +kernel
theorem dX4_attest_77 : decode cX4_attest 77 = .ok (.iconst 3, 1) := by decide +kernel
theorem dX4_attest_78 : decode cX4_attest 78 = .ok (.goto 4, 3) := by decide +kernel
theorem dX4_attest_81 : decode cX4_attest 81 = .ok (.iconst 0, 1) := by decide +kernel
theorem dX4_attest_82 : decode cX4_attest 82 = .ok (.invokevirtual 76, 3) := by decide +kernel
theorem dX4_attest_85 : decode cX4_attest 85 = .ok (.ifCond .eq 5, 3) := by decide +kernel
theorem dX4_attest_88 : decode cX4_attest 88 = .ok (.iconst 0, 1) := by decide +kernel
theorem dX4_attest_89 : decode cX4_attest 89 = .ok (.ireturn, 1) := by decide +kernel
theorem dX4_attest_90 : decode cX4_attest 90 = .ok (.aload_n 0, 1) := by decide +kernel
theorem dX4_attest_91 : decode cX4_attest 91 = .ok (.getfield 41, 3) := by decide +kernel
theorem dX4_attest_94 : decode cX4_attest 94 = .ok (.iload_n 1, 1) := by decide +kernel
theorem dX4_attest_95 : decode cX4_attest 95 = .ok (.dup2, 1) := by decide +kernel
theorem dX4_attest_96 : decode cX4_attest 96 = .ok (.iaload, 1) := by decide +kernel
theorem dX4_attest_97 : decode cX4_attest 97 = .ok (.iconst 1, 1) := by decide +kernel
theorem dX4_attest_98 : decode cX4_attest 98 = .ok (.iload_n 2, 1) := by decide +kernel
theorem dX4_attest_99 : decode cX4_attest 99 = .ok (.ishl, 1) := by decide +kernel
theorem dX4_attest_100 : decode cX4_attest 100 = .ok (.ior, 1) := by decide +kernel
theorem dX4_attest_101 : decode cX4_attest 101 = .ok (.iastore, 1) := by decide +kernel
theorem dX4_attest_102 : decode cX4_attest 102 = .ok (.aload_n 0, 1) := by decide +kernel
theorem dX4_attest_103 : decode cX4_attest 103 = .ok (.getfield 41, 3) := by decide +kernel
theorem dX4_attest_106 : decode cX4_attest 106 = .ok (.iload_n 1, 1) := by decide +kernel
theorem dX4_attest_107 : decode cX4_attest 107 = .ok (.iaload, 1) := by decide +kernel
theorem dX4_attest_108 : decode cX4_attest 108 = .ok (.invokestatic 96, 3) := by decide +kernel
theorem dX4_attest_111 : decode cX4_attest 111 = .ok (.ireturn, 1) := by decide +kernel
set_option maxRecDepth 20000 in
theorem ggX4_backs_X4_lives : GoodIn wsX4_backs wsX4_lives := goodIn_r _ [8, 9, 10, 11, 12, 13, 14, 7, 15, 16, 17, 18, 19, 20, 21, 22, 23, 24, 25, 26, 27, 28, 29, 30, 31, 32, 33, 34, 35, 36, 37, 38] (by decide +kernel) (by decide +kernel)
set_option maxRecDepth 20000 in
theorem gX4_backs_X4_lives : GoodIn wsX4_backs (wsV RX4 100 RX4 yX4_lives wsX4_lives) := goodIn_app (goodIn_of _ (by decide +kernel)) ggX4_backs_X4_lives
theorem dX4_backs_0 : decode cX4_backs 0 = .ok (.iconst 0, 1) := by decide +kernel
theorem dX4_backs_1 : decode cX4_backs 1 = .ok (.istore 4, 2) := by decide +kernel
theorem dX4_backs_3 : decode cX4_backs 3 = .ok (.iload 4, 2) := by decide +kernel
theorem dX4_backs_5 : decode cX4_backs 5 = .ok (.aload_n 0, 1) := by decide +kernel
theorem dX4_backs_6 : decode cX4_backs 6 = .ok (.getfield 69, 3) := by decide +kernel
theorem dX4_backs_9 : decode cX4_backs 9 = .ok (.if_icmp .ge 52, 3) := by decide +kernel
theorem dX4_backs_12 : decode cX4_backs 12 = .ok (.iload 4, 2) := by decide +kernel
theorem dX4_backs_14 : decode cX4_backs 14 = .ok (.iload_n 3, 1) := by decide +kernel
theorem dX4_backs_15 : decode cX4_backs 15 = .ok (.if_icmp .eq 40, 3) := by decide +kernel
theorem dX4_backs_18 : decode cX4_backs 18 = .ok (.aload_n 0, 1) := by decide +kernel
theorem dX4_backs_19 : decode cX4_backs 19 = .ok (.getfield 16, 3) := by decide +kernel
theorem dX4_backs_22 : decode cX4_backs 22 = .ok (.iload 4, 2) := by decide +kernel
theorem dX4_backs_24 : decode cX4_backs 24 = .ok (.iaload, 1) := by decide +kernel
theorem dX4_backs_25 : decode cX4_backs 25 = .ok (.iload_n 1, 1) := by decide +kernel
theorem dX4_backs_26 : decode cX4_backs 26 = .ok (.if_icmp .ne 29, 3) := by decide +kernel
theorem dX4_backs_29 : decode cX4_backs 29 = .ok (.aload_n 0, 1) := by decide +kernel
theorem dX4_backs_30 : decode cX4_backs 30 = .ok (.iload 4, 2) := by decide +kernel
theorem dX4_backs_32 : decode cX4_backs 32 = .ok (.invokevirtual 100, 3) := by decide +kernel
theorem dX4_backs_35 : decode cX4_backs 35 = .ok (.ifCond .eq 20, 3) := by decide +kernel
theorem dX4_backs_38 : decode cX4_backs 38 = .ok (.aload_n 0, 1) := by decide +kernel
theorem dX4_backs_39 : decode cX4_backs 39 = .ok (.getfield 41, 3) := by decide +kernel
theorem dX4_backs_42 : decode cX4_backs 42 = .ok (.iload_n 2, 1) := by decide +kernel
theorem dX4_backs_43 : decode cX4_backs 43 = .ok (.iaload, 1) := by decide +kernel
theorem dX4_backs_44 : decode cX4_backs 44 = .ok (.iload 4, 2) := by decide +kernel
theorem dX4_backs_46 : decode cX4_backs 46 = .ok (.ishr, 1) := by decide +kernel
theorem dX4_backs_47 : decode cX4_backs 47 = .ok (.iconst 1, 1) := by decide +kernel
theorem dX4_backs_48 : decode cX4_backs 48 = .ok (.iand, 1) := by decide +kernel
theorem dX4_backs_49 : decode cX4_backs 49 = .ok (.iconst 1, 1) := by decide +kernel
theorem dX4_backs_50 : decode cX4_backs 50 = .ok (.if_icmp .ne 5, 3) := by decide +kernel
theorem dX4_backs_53 : decode cX4_backs 53 = .ok (.iconst 1, 1) := by decide +kernel
theorem dX4_backs_54 : decode cX4_backs 54 = .ok (.ireturn, 1) := by decide +kernel
theorem dX4_backs_55 : decode cX4_backs 55 = .ok (.iinc 4 1, 3) := by decide +kernel
theorem dX4_backs_58 : decode cX4_backs 58 = .ok (.goto (-55), 3) := by decide +kernel
theorem dX4_backs_61 : decode cX4_backs 61 = .ok (.iconst 0, 1) := by decide +kernel
theorem dX4_backs_62 : decode cX4_backs 62 = .ok (.ireturn, 1) := by decide +kernel
set_option maxRecDepth 20000 in
theorem ggX4_vouched_X4_isNoBuild : GoodIn wsX4_vouched wsX4_isNoBuild := goodIn_r _ [5, 6, 7, 8, 4, 9, 10, 11, 12, 13, 14, 30, 31, 32, 33, 34, 35, 36, 37, 38, 39, 40, 41, 42, 43, 44, 45, 46, 47, 48, 49, 50, 51, 52] (by decide +kernel) (by decide +kernel)
set_option maxRecDepth 20000 in
theorem gX4_vouched_X4_isNoBuild : GoodIn wsX4_vouched (wsV RX4 112 RX4 yX4_isNoBuild wsX4_isNoBuild) := goodIn_app (goodIn_of _ (by decide +kernel)) ggX4_vouched_X4_isNoBuild
set_option maxRecDepth 20000 in
theorem ggX4_vouched_X4_in : GoodIn wsX4_vouched wsX4_in := goodIn_r _ [9] (by decide +kernel) (by decide +kernel)
set_option maxRecDepth 20000 in
theorem gX4_vouched_X4_in : GoodIn wsX4_vouched (va_wsS RX4 72 yX4_in wsX4_in) := goodIn_app (goodIn_of _ (by decide +kernel)) ggX4_vouched_X4_in
set_option maxRecDepth 20000 in
theorem ggX4_vouched_X4_fails : GoodIn wsX4_vouched wsX4_fails := goodIn_r _ [13, 14, 30, 31, 32, 33, 34, 35, 36, 37, 38, 39, 40, 41, 42, 43, 44, 45, 46, 47, 48, 49, 50, 51, 52] (by decide +kernel) (by decide +kernel)
set_option maxRecDepth 20000 in
theorem gX4_vouched_X4_fails : GoodIn wsX4_vouched (wsV RX4 76 RX4 yX4_fails wsX4_fails) := goodIn_app (goodIn_of _ (by decide +kernel)) ggX4_vouched_X4_fails
set_option maxRecDepth 20000 in
theorem ggX4_vouched_X4_backs : GoodIn wsX4_vouched wsX4_backs := goodIn_r _ [18, 19, 20, 21, 22, 23, 24, 4, 25, 26, 27, 28, 29, 7, 8, 9, 30, 31, 32, 33, 34, 35, 36, 37, 38, 39, 40, 41, 42, 43, 44, 45, 46, 47, 48, 49, 50, 51, 52] (by decide +kernel) (by decide +kernel)
set_option maxRecDepth 20000 in
theorem gX4_vouched_X4_backs : GoodIn wsX4_vouched (wsV RX4 122 RX4 yX4_backs wsX4_backs) := goodIn_app (goodIn_of _ (by decide +kernel)) ggX4_vouched_X4_backs
theorem dX4_vouched_0 : decode cX4_vouched 0 = .ok (.aload_n 0, 1) := by decide +kernel
theorem dX4_vouched_1 : decode cX4_vouched 1 = .ok (.iload_n 1, 1) := by decide +kernel
theorem dX4_vouched_2 : decode cX4_vouched 2 = .ok (.invokevirtual 112, 3) := by decide +kernel
theorem dX4_vouched_5 : decode cX4_vouched 5 = .ok (.ifCond .ne 38, 3) := by decide +kernel
theorem dX4_vouched_8 : decode cX4_vouched 8 = .ok (.aload_n 0, 1) := by decide +kernel
theorem dX4_vouched_9 : decode cX4_vouched 9 = .ok (.iload_n 2, 1) := by decide +kernel
theorem dX4_vouched_10 : decode cX4_vouched 10 = .ok (.iconst 0, 1) := by decide +kernel
theorem dX4_vouched_11 : decode cX4_vouched 11 = .ok (.iconst 3, 1) := by decide +kernel
theorem dX4_vouched_12 : decode cX4_vouched 12 = .ok (.invokestatic 72, 3) := by decide +kernel
theorem dX4_vouched_15 : decode cX4_vouched 15 = .ok (.ifCond .eq 7, 3) := by decide +kernel
theorem dX4_vouched_18 : decode cX4_vouched 18 = .ok (.iconst 0, 1) := by decide +kernel
theorem dX4_vouched_19 : decode cX4_vouched 19 = .ok (.goto 4, 3) := by decide +kernel
theorem dX4_vouched_22 : decode cX4_vouched 22 = .ok (.iconst 2, 1) := by decide +kernel
theorem dX4_vouched_23 : decode cX4_vouched 23 = .ok (.invokevirtual 76, 3) := by decide +kernel
theorem dX4_vouched_26 : decode cX4_vouched 26 = .ok (.ifCond .ne 17, 3) := by decide +kernel
theorem dX4_vouched_29 : decode cX4_vouched 29 = .ok (.aload_n 0, 1) := by decide +kernel
theorem dX4_vouched_30 : decode cX4_vouched 30 = .ok (.iload_n 2, 1) := by decide +kernel
theorem dX4_vouched_31 : decode cX4_vouched 31 = .ok (.iload_n 1, 1) := by decide +kernel
theorem dX4_vouched_32 : decode cX4_vouched 32 = .ok (.iconst (-1), 1) := by decide +kernel
theorem dX4_vouched_33 : decode cX4_vouched 33 = .ok (.invokevirtual 122, 3) := by decide +kernel
theorem dX4_vouched_36 : decode cX4_vouched 36 = .ok (.ifCond .eq 7, 3) := by decide +kernel
theorem dX4_vouched_39 : decode cX4_vouched 39 = .ok (.iconst 1, 1) := by decide +kernel
theorem dX4_vouched_40 : decode cX4_vouched 40 = .ok (.goto 4, 3) := by decide +kernel
theorem dX4_vouched_43 : decode cX4_vouched 43 = .ok (.iconst 0, 1) := by decide +kernel
theorem dX4_vouched_44 : decode cX4_vouched 44 = .ok (.ireturn, 1) := by decide +kernel
set_option maxRecDepth 20000 in
theorem ggX4_vouches_X4_vouched : GoodIn wsX4_vouches wsX4_vouched := goodIn_r _ [5, 6, 7, 8, 4, 9, 10, 11, 12, 13, 14, 15, 16, 17, 18, 19, 20, 21, 22, 23, 24, 25, 26, 27, 28, 29, 30, 31, 32, 33, 34, 35, 36, 37, 38, 39, 40, 41, 42, 43, 44, 45, 46, 47, 48, 49, 50, 51, 52, 53, 54, 55, 56] (by decide +kernel) (by decide +kernel)
set_option maxRecDepth 20000 in
theorem gX4_vouches_X4_vouched : GoodIn wsX4_vouches (wsV RX4 125 RX4 yX4_vouched wsX4_vouched) := goodIn_app (goodIn_of _ (by decide +kernel)) ggX4_vouches_X4_vouched
theorem dX4_vouches_0 : decode cX4_vouches 0 = .ok (.aload_n 0, 1) := by decide +kernel
theorem dX4_vouches_1 : decode cX4_vouches 1 = .ok (.iload_n 1, 1) := by decide +kernel
theorem dX4_vouches_2 : decode cX4_vouches 2 = .ok (.iload_n 2, 1) := by decide +kernel
theorem dX4_vouches_3 : decode cX4_vouches 3 = .ok (.invokevirtual 125, 3) := by decide +kernel
theorem dX4_vouches_6 : decode cX4_vouches 6 = .ok (.ireturn, 1) := by decide +kernel
set_option maxRecDepth 20000 in
theorem ggX4_vouchesByList_X4_vouched : GoodIn wsX4_vouchesByList wsX4_vouched := goodIn_r _ [5, 6, 7, 8, 4, 9, 10, 11, 12, 13, 14, 15, 16, 17, 18, 19, 20, 21, 22, 23, 24, 25, 26, 27, 28, 29, 30, 31, 32, 33, 34, 35, 36, 37, 38, 39, 40, 41, 42, 43, 44, 45, 46, 47, 48, 49, 50, 51, 52, 53, 54, 55, 56] (by decide +kernel) (by decide +kernel)
set_option maxRecDepth 20000 in
theorem gX4_vouchesByList_X4_vouched : GoodIn wsX4_vouchesByList (wsV RX4 125 RX4 yX4_vouched wsX4_vouched) := goodIn_app (goodIn_of _ (by decide +kernel)) ggX4_vouchesByList_X4_vouched
theorem dX4_vouchesByList_0 : decode cX4_vouchesByList 0 = .ok (.aload_n 0, 1) := by decide +kernel
theorem dX4_vouchesByList_1 : decode cX4_vouchesByList 1 = .ok (.iload_n 1, 1) := by decide +kernel
theorem dX4_vouchesByList_2 : decode cX4_vouchesByList 2 = .ok (.iload_n 2, 1) := by decide +kernel
theorem dX4_vouchesByList_3 : decode cX4_vouchesByList 3 = .ok (.invokevirtual 125, 3) := by decide +kernel
theorem dX4_vouchesByList_6 : decode cX4_vouchesByList 6 = .ok (.ireturn, 1) := by decide +kernel
set_option maxRecDepth 20000 in
theorem ggX4_scoreOf_X4_backs : GoodIn wsX4_scoreOf wsX4_backs := goodIn_r _ [7, 8, 9, 10, 11, 12, 13, 6, 14, 15, 16, 17, 18, 19, 20, 21, 22, 23, 24, 25, 26, 27, 28, 29, 30, 31, 32, 33, 34, 35, 36, 37, 38, 39, 40, 41, 42, 43, 44] (by decide +kernel) (by decide +kernel)
set_option maxRecDepth 20000 in
theorem gX4_scoreOf_X4_backs : GoodIn wsX4_scoreOf (wsV RX4 122 RX4 yX4_backs wsX4_backs) := goodIn_app (goodIn_of _ (by decide +kernel)) ggX4_scoreOf_X4_backs
theorem dX4_scoreOf_0 : decode cX4_scoreOf 0 = .ok (.fconst 0, 1) := by decide +kernel
theorem dX4_scoreOf_1 : decode cX4_scoreOf 1 = .ok (.fstore_n 3, 1) := by decide +kernel
theorem dX4_scoreOf_2 : decode cX4_scoreOf 2 = .ok (.iconst 0, 1) := by decide +kernel
theorem dX4_scoreOf_3 : decode cX4_scoreOf 3 = .ok (.istore 4, 2) := by decide +kernel
theorem dX4_scoreOf_5 : decode cX4_scoreOf 5 = .ok (.iload 4, 2) := by decide +kernel
theorem dX4_scoreOf_7 : decode cX4_scoreOf 7 = .ok (.iconst 4, 1) := by decide +kernel
theorem dX4_scoreOf_8 : decode cX4_scoreOf 8 = .ok (.if_icmp .ge 34, 3) := by decide +kernel
theorem dX4_scoreOf_11 : decode cX4_scoreOf 11 = .ok (.aload_n 0, 1) := by decide +kernel
theorem dX4_scoreOf_12 : decode cX4_scoreOf 12 = .ok (.iload 4, 2) := by decide +kernel
theorem dX4_scoreOf_14 : decode cX4_scoreOf 14 = .ok (.iload_n 1, 1) := by decide +kernel
theorem dX4_scoreOf_15 : decode cX4_scoreOf 15 = .ok (.iload_n 2, 1) := by decide +kernel
theorem dX4_scoreOf_16 : decode cX4_scoreOf 16 = .ok (.invokevirtual 122, 3) := by decide +kernel
theorem dX4_scoreOf_19 : decode cX4_scoreOf 19 = .ok (.ifCond .eq 17, 3) := by decide +kernel
theorem dX4_scoreOf_22 : decode cX4_scoreOf 22 = .ok (.fload_n 3, 1) := by decide +kernel
theorem dX4_scoreOf_23 : decode cX4_scoreOf 23 = .ok (.aload_n 0, 1) := by decide +kernel
theorem dX4_scoreOf_24 : decode cX4_scoreOf 24 = .ok (.getfield 7, 3) := by decide +kernel
theorem dX4_scoreOf_27 : decode cX4_scoreOf 27 = .ok (.iload 4, 2) := by decide +kernel
theorem dX4_scoreOf_29 : decode cX4_scoreOf 29 = .ok (.iaload, 1) := by decide +kernel
theorem dX4_scoreOf_30 : decode cX4_scoreOf 30 = .ok (.i2f, 1) := by decide +kernel
theorem dX4_scoreOf_31 : decode cX4_scoreOf 31 = .ok (.ldc 129, 2) := by decide +kernel
theorem dX4_scoreOf_33 : decode cX4_scoreOf 33 = .ok (.fdiv, 1) := by decide +kernel
theorem dX4_scoreOf_34 : decode cX4_scoreOf 34 = .ok (.fadd, 1) := by decide +kernel
theorem dX4_scoreOf_35 : decode cX4_scoreOf 35 = .ok (.fstore_n 3, 1) := by decide +kernel
theorem dX4_scoreOf_36 : decode cX4_scoreOf 36 = .ok (.iinc 4 1, 3) := by decide +kernel
theorem dX4_scoreOf_39 : decode cX4_scoreOf 39 = .ok (.goto (-34), 3) := by decide +kernel
theorem dX4_scoreOf_42 : decode cX4_scoreOf 42 = .ok (.fload_n 3, 1) := by decide +kernel
theorem dX4_scoreOf_43 : decode cX4_scoreOf 43 = .ok (.freturn, 1) := by decide +kernel
set_option maxRecDepth 20000 in
theorem ggX4_isEnough_X4_scoreOf : GoodIn wsX4_isEnough wsX4_scoreOf := goodIn_r _ [8, 9, 3, 10, 11, 12, 7, 13, 14, 15, 16, 17, 18, 19, 20, 21, 22, 23, 24, 25, 26, 27, 28, 29, 30, 31, 32, 33, 34, 35, 36, 37, 38, 39, 40, 41, 42, 43, 44, 45, 46, 47, 48, 49, 50] (by decide +kernel) (by decide +kernel)
set_option maxRecDepth 20000 in
theorem gX4_isEnough_X4_scoreOf : GoodIn wsX4_isEnough (wsV RX4 130 RX4 yX4_scoreOf wsX4_scoreOf) := goodIn_app (goodIn_of _ (by decide +kernel)) ggX4_isEnough_X4_scoreOf
theorem dX4_isEnough_0 : decode cX4_isEnough 0 = .ok (.aload_n 0, 1) := by decide +kernel
theorem dX4_isEnough_1 : decode cX4_isEnough 1 = .ok (.iload_n 1, 1) := by decide +kernel
theorem dX4_isEnough_2 : decode cX4_isEnough 2 = .ok (.iload_n 2, 1) := by decide +kernel
theorem dX4_isEnough_3 : decode cX4_isEnough 3 = .ok (.invokevirtual 130, 3) := by decide +kernel
theorem dX4_isEnough_6 : decode cX4_isEnough 6 = .ok (.aload_n 0, 1) := by decide +kernel
theorem dX4_isEnough_7 : decode cX4_isEnough 7 = .ok (.getfield 13, 3) := by decide +kernel
theorem dX4_isEnough_10 : decode cX4_isEnough 10 = .ok (.aload_n 0, 1) := by decide +kernel
theorem dX4_isEnough_11 : decode cX4_isEnough 11 = .ok (.getfield 29, 3) := by decide +kernel
theorem dX4_isEnough_14 : decode cX4_isEnough 14 = .ok (.iload_n 1, 1) := by decide +kernel
theorem dX4_isEnough_15 : decode cX4_isEnough 15 = .ok (.iaload, 1) := by decide +kernel
theorem dX4_isEnough_16 : decode cX4_isEnough 16 = .ok (.iaload, 1) := by decide +kernel
theorem dX4_isEnough_17 : decode cX4_isEnough 17 = .ok (.i2f, 1) := by decide +kernel
theorem dX4_isEnough_18 : decode cX4_isEnough 18 = .ok (.ldc 129, 2) := by decide +kernel
theorem dX4_isEnough_20 : decode cX4_isEnough 20 = .ok (.fdiv, 1) := by decide +kernel
theorem dX4_isEnough_21 : decode cX4_isEnough 21 = .ok (.fcmp .l, 1) := by decide +kernel
theorem dX4_isEnough_22 : decode cX4_isEnough 22 = .ok (.ifCond .lt 7, 3) := by decide +kernel
theorem dX4_isEnough_25 : decode cX4_isEnough 25 = .ok (.iconst 1, 1) := by decide +kernel
theorem dX4_isEnough_26 : decode cX4_isEnough 26 = .ok (.goto 4, 3) := by decide +kernel
theorem dX4_isEnough_29 : decode cX4_isEnough 29 = .ok (.iconst 0, 1) := by decide +kernel
theorem dX4_isEnough_30 : decode cX4_isEnough 30 = .ok (.ireturn, 1) := by decide +kernel
set_option maxRecDepth 20000 in
theorem ggX4_trustedWithout_X4_isEnough : GoodIn wsX4_trustedWithout wsX4_isEnough := goodIn_r _ [6, 7, 8, 9, 10, 11, 12, 5, 13, 14, 15, 16, 17, 18, 19, 20, 21, 22, 23, 24, 25, 26, 27, 28, 29, 30, 31, 32, 33, 34, 35, 36, 37, 38, 39, 40, 41, 42, 43, 44, 45, 46, 47, 48, 49, 50, 51, 52, 53, 54, 55] (by decide +kernel) (by decide +kernel)
set_option maxRecDepth 20000 in
theorem gX4_trustedWithout_X4_isEnough : GoodIn wsX4_trustedWithout (wsV RX4 134 RX4 yX4_isEnough wsX4_isEnough) := goodIn_app (goodIn_of _ (by decide +kernel)) ggX4_trustedWithout_X4_isEnough
theorem dX4_trustedWithout_0 : decode cX4_trustedWithout 0 = .ok (.iconst 0, 1) := by decide +kernel
theorem dX4_trustedWithout_1 : decode cX4_trustedWithout 1 = .ok (.istore_n 2, 1) := by decide +kernel
theorem dX4_trustedWithout_2 : decode cX4_trustedWithout 2 = .ok (.iconst 0, 1) := by decide +kernel
theorem dX4_trustedWithout_3 : decode cX4_trustedWithout 3 = .ok (.istore_n 3, 1) := by decide +kernel
theorem dX4_trustedWithout_4 : decode cX4_trustedWithout 4 = .ok (.iload_n 3, 1) := by decide +kernel
theorem dX4_trustedWithout_5 : decode cX4_trustedWithout 5 = .ok (.aload_n 0, 1) := by decide +kernel
theorem dX4_trustedWithout_6 : decode cX4_trustedWithout 6 = .ok (.getfield 80, 3) := by decide +kernel
theorem dX4_trustedWithout_9 : decode cX4_trustedWithout 9 = .ok (.if_icmp .ge 24, 3) := by decide +kernel
theorem dX4_trustedWithout_12 : decode cX4_trustedWithout 12 = .ok (.aload_n 0, 1) := by decide +kernel
theorem dX4_trustedWithout_13 : decode cX4_trustedWithout 13 = .ok (.iload_n 3, 1) := by decide +kernel
theorem dX4_trustedWithout_14 : decode cX4_trustedWithout 14 = .ok (.iload_n 1, 1) := by decide +kernel
theorem dX4_trustedWithout_15 : decode cX4_trustedWithout 15 = .ok (.invokevirtual 134, 3) := by decide +kernel
theorem dX4_trustedWithout_18 : decode cX4_trustedWithout 18 = .ok (.ifCond .eq 9, 3) := by decide +kernel
theorem dX4_trustedWithout_21 : decode cX4_trustedWithout 21 = .ok (.iload_n 2, 1) := by decide +kernel
theorem dX4_trustedWithout_22 : decode cX4_trustedWithout 22 = .ok (.iconst 1, 1) := by decide +kernel
theorem dX4_trustedWithout_23 : decode cX4_trustedWithout 23 = .ok (.iload_n 3, 1) := by decide +kernel
theorem dX4_trustedWithout_24 : decode cX4_trustedWithout 24 = .ok (.ishl, 1) := by decide +kernel
theorem dX4_trustedWithout_25 : decode cX4_trustedWithout 25 = .ok (.ior, 1) := by decide +kernel
theorem dX4_trustedWithout_26 : decode cX4_trustedWithout 26 = .ok (.istore_n 2, 1) := by decide +kernel
theorem dX4_trustedWithout_27 : decode cX4_trustedWithout 27 = .ok (.iinc 3 1, 3) := by decide +kernel
theorem dX4_trustedWithout_30 : decode cX4_trustedWithout 30 = .ok (.goto (-26), 3) := by decide +kernel
theorem dX4_trustedWithout_33 : decode cX4_trustedWithout 33 = .ok (.iload_n 2, 1) := by decide +kernel
theorem dX4_trustedWithout_34 : decode cX4_trustedWithout 34 = .ok (.ireturn, 1) := by decide +kernel
set_option maxRecDepth 20000 in
theorem ggX4_trusted_X4_trustedWithout : GoodIn wsX4_trusted wsX4_trustedWithout := goodIn_r _ [5, 6, 7, 8, 9, 4, 10, 11, 12, 13, 14, 15, 16, 17, 18, 19, 20, 21, 22, 23, 24, 25, 26, 27, 28, 29, 30, 31, 32, 33, 34, 35, 36, 37, 38, 39, 40, 41, 42, 43, 44, 45, 46, 47, 48, 49, 50, 51, 52, 53, 54, 55, 56, 57, 58, 59] (by decide +kernel) (by decide +kernel)
set_option maxRecDepth 20000 in
theorem gX4_trusted_X4_trustedWithout : GoodIn wsX4_trusted (wsV RX4 137 RX4 yX4_trustedWithout wsX4_trustedWithout) := goodIn_app (goodIn_of _ (by decide +kernel)) ggX4_trusted_X4_trustedWithout
theorem dX4_trusted_0 : decode cX4_trusted 0 = .ok (.aload_n 0, 1) := by decide +kernel
theorem dX4_trusted_1 : decode cX4_trusted 1 = .ok (.iconst (-1), 1) := by decide +kernel
theorem dX4_trusted_2 : decode cX4_trusted 2 = .ok (.invokevirtual 137, 3) := by decide +kernel
theorem dX4_trusted_5 : decode cX4_trusted 5 = .ok (.ireturn, 1) := by decide +kernel
set_option maxRecDepth 20000 in
theorem ggX4_score_X4_isNoBuild : GoodIn wsX4_score wsX4_isNoBuild := goodIn_r _ [5, 6, 7, 8, 4, 9, 10, 11, 12, 13, 14, 36, 37, 38, 39, 40, 41, 42, 43, 44, 45, 46, 47, 48, 49, 50, 51, 52, 53, 54, 55, 56, 57, 58] (by decide +kernel) (by decide +kernel)
set_option maxRecDepth 20000 in
theorem gX4_score_X4_isNoBuild : GoodIn wsX4_score (wsV RX4 112 RX4 yX4_isNoBuild wsX4_isNoBuild) := goodIn_app (goodIn_of _ (by decide +kernel)) ggX4_score_X4_isNoBuild
set_option maxRecDepth 20000 in
theorem ggX4_score_X4_scoreOf : GoodIn wsX4_score wsX4_scoreOf := goodIn_r _ [18, 19, 20, 21, 22, 23, 4, 24, 25, 26, 27, 28, 29, 30, 31, 32, 33, 34, 35, 7, 8, 9, 36, 37, 38, 39, 40, 41, 42, 43, 44, 45, 46, 47, 48, 49, 50, 51, 52, 53, 54, 55, 56, 57, 58] (by decide +kernel) (by decide +kernel)
set_option maxRecDepth 20000 in
theorem gX4_score_X4_scoreOf : GoodIn wsX4_score (wsV RX4 130 RX4 yX4_scoreOf wsX4_scoreOf) := goodIn_app (goodIn_of _ (by decide +kernel)) ggX4_score_X4_scoreOf
theorem dX4_score_0 : decode cX4_score 0 = .ok (.aload_n 0, 1) := by decide +kernel
theorem dX4_score_1 : decode cX4_score 1 = .ok (.iload_n 1, 1) := by decide +kernel
theorem dX4_score_2 : decode cX4_score 2 = .ok (.invokevirtual 112, 3) := by decide +kernel
theorem dX4_score_5 : decode cX4_score 5 = .ok (.ifCond .eq 7, 3) := by decide +kernel
theorem dX4_score_8 : decode cX4_score 8 = .ok (.fconst 0, 1) := by decide +kernel
theorem dX4_score_9 : decode cX4_score 9 = .ok (.goto 9, 3) := by decide +kernel
theorem dX4_score_12 : decode cX4_score 12 = .ok (.aload_n 0, 1) := by decide +kernel
theorem dX4_score_13 : decode cX4_score 13 = .ok (.iload_n 1, 1) := by decide +kernel
theorem dX4_score_14 : decode cX4_score 14 = .ok (.iconst (-1), 1) := by decide +kernel
theorem dX4_score_15 : decode cX4_score 15 = .ok (.invokevirtual 130, 3) := by decide +kernel
theorem dX4_score_18 : decode cX4_score 18 = .ok (.freturn, 1) := by decide +kernel
set_option maxRecDepth 20000 in
theorem ggX4_scoreBits_X4_isNoBuild : GoodIn wsX4_scoreBits wsX4_isNoBuild := goodIn_r _ [5, 6, 7, 8, 4, 9, 10, 11, 12, 13, 14, 48, 49, 50, 51, 52, 53, 54, 55, 56, 57, 58, 59, 60, 61, 62, 63, 64, 65, 66, 67, 68, 69, 70] (by decide +kernel) (by decide +kernel)
set_option maxRecDepth 20000 in
theorem gX4_scoreBits_X4_isNoBuild : GoodIn wsX4_scoreBits (wsV RX4 112 RX4 yX4_isNoBuild wsX4_isNoBuild) := goodIn_app (goodIn_of _ (by decide +kernel)) ggX4_scoreBits_X4_isNoBuild
set_option maxRecDepth 20000 in
theorem ggX4_scoreBits_X4_scoreOf : GoodIn wsX4_scoreBits wsX4_scoreOf := goodIn_r _ [18, 19, 20, 21, 22, 23, 4, 24, 25, 26, 27, 28, 29, 30, 31, 32, 33, 34, 35, 7, 8, 9, 48, 49, 50, 51, 52, 53, 54, 55, 56, 57, 58, 59, 60, 61, 62, 63, 64, 65, 66, 67, 68, 69, 70] (by decide +kernel) (by decide +kernel)
set_option maxRecDepth 20000 in
theorem gX4_scoreBits_X4_scoreOf : GoodIn wsX4_scoreBits (wsV RX4 130 RX4 yX4_scoreOf wsX4_scoreOf) := goodIn_app (goodIn_of _ (by decide +kernel)) ggX4_scoreBits_X4_scoreOf
set_option maxRecDepth 20000 in
theorem ggX4_scoreBits_Jxf58ca_floatToIntBits_5c35a : GoodIn wsX4_scoreBits wsJxf58ca_floatToIntBits_5c35a := goodIn_r _ [39, 40, 41, 42, 43, 44, 45, 46, 38, 47] (by decide +kernel) (by decide +kernel)
set_option maxRecDepth 20000 in
theorem gX4_scoreBits_Jxf58ca_floatToIntBits_5c35a : GoodIn wsX4_scoreBits (va_wsS RX4 140 yJxf58ca_floatToIntBits_5c35a wsJxf58ca_floatToIntBits_5c35a) := goodIn_app (goodIn_of _ (by decide +kernel)) ggX4_scoreBits_Jxf58ca_floatToIntBits_5c35a
theorem dX4_scoreBits_0 : decode cX4_scoreBits 0 = .ok (.aload_n 0, 1) := by decide +kernel
theorem dX4_scoreBits_1 : decode cX4_scoreBits 1 = .ok (.iload_n 1, 1) := by decide +kernel
theorem dX4_scoreBits_2 : decode cX4_scoreBits 2 = .ok (.invokevirtual 112, 3) := by decide +kernel
theorem dX4_scoreBits_5 : decode cX4_scoreBits 5 = .ok (.ifCond .eq 7, 3) := by decide +kernel
theorem dX4_scoreBits_8 : decode cX4_scoreBits 8 = .ok (.iconst 0, 1) := by decide +kernel
theorem dX4_scoreBits_9 : decode cX4_scoreBits 9 = .ok (.goto 12, 3) := by decide +kernel
theorem dX4_scoreBits_12 : decode cX4_scoreBits 12 = .ok (.aload_n 0, 1) := by decide +kernel
theorem dX4_scoreBits_13 : decode cX4_scoreBits 13 = .ok (.iload_n 1, 1) := by decide +kernel
theorem dX4_scoreBits_14 : decode cX4_scoreBits 14 = .ok (.iconst (-1), 1) := by decide +kernel
theorem dX4_scoreBits_15 : decode cX4_scoreBits 15 = .ok (.invokevirtual 130, 3) := by decide +kernel
theorem dX4_scoreBits_18 : decode cX4_scoreBits 18 = .ok (.invokestatic 140, 3) := by decide +kernel
theorem dX4_scoreBits_21 : decode cX4_scoreBits 21 = .ok (.ireturn, 1) := by decide +kernel
set_option maxRecDepth 20000 in
theorem ggX4_isTrusted_X4_isNoBuild : GoodIn wsX4_isTrusted wsX4_isNoBuild := goodIn_r _ [5, 6, 7, 8, 4, 9, 10, 11, 12, 13, 14, 42, 43, 44, 45, 46, 47, 48, 49, 50, 51, 52, 53, 54, 55, 56, 57, 58, 59, 60, 61, 62, 63, 64] (by decide +kernel) (by decide +kernel)
set_option maxRecDepth 20000 in
theorem gX4_isTrusted_X4_isNoBuild : GoodIn wsX4_isTrusted (wsV RX4 112 RX4 yX4_isNoBuild wsX4_isNoBuild) := goodIn_app (goodIn_of _ (by decide +kernel)) ggX4_isTrusted_X4_isNoBuild
set_option maxRecDepth 20000 in
theorem ggX4_isTrusted_X4_isEnough : GoodIn wsX4_isTrusted wsX4_isEnough := goodIn_r _ [18, 19, 20, 21, 22, 23, 24, 4, 25, 26, 27, 28, 29, 30, 31, 32, 33, 34, 35, 36, 37, 38, 39, 40, 41, 7, 8, 9, 42, 43, 44, 45, 46, 47, 48, 49, 50, 51, 52, 53, 54, 55, 56, 57, 58, 59, 60, 61, 62, 63, 64] (by decide +kernel) (by decide +kernel)
set_option maxRecDepth 20000 in
theorem gX4_isTrusted_X4_isEnough : GoodIn wsX4_isTrusted (wsV RX4 134 RX4 yX4_isEnough wsX4_isEnough) := goodIn_app (goodIn_of _ (by decide +kernel)) ggX4_isTrusted_X4_isEnough
theorem dX4_isTrusted_0 : decode cX4_isTrusted 0 = .ok (.aload_n 0, 1) := by decide +kernel
theorem dX4_isTrusted_1 : decode cX4_isTrusted 1 = .ok (.iload_n 1, 1) := by decide +kernel
theorem dX4_isTrusted_2 : decode cX4_isTrusted 2 = .ok (.invokevirtual 112, 3) := by decide +kernel
theorem dX4_isTrusted_5 : decode cX4_isTrusted 5 = .ok (.ifCond .ne 16, 3) := by decide +kernel
theorem dX4_isTrusted_8 : decode cX4_isTrusted 8 = .ok (.aload_n 0, 1) := by decide +kernel
theorem dX4_isTrusted_9 : decode cX4_isTrusted 9 = .ok (.iload_n 1, 1) := by decide +kernel
theorem dX4_isTrusted_10 : decode cX4_isTrusted 10 = .ok (.iconst (-1), 1) := by decide +kernel
theorem dX4_isTrusted_11 : decode cX4_isTrusted 11 = .ok (.invokevirtual 134, 3) := by decide +kernel
theorem dX4_isTrusted_14 : decode cX4_isTrusted 14 = .ok (.ifCond .eq 7, 3) := by decide +kernel
theorem dX4_isTrusted_17 : decode cX4_isTrusted 17 = .ok (.iconst 1, 1) := by decide +kernel
theorem dX4_isTrusted_18 : decode cX4_isTrusted 18 = .ok (.goto 4, 3) := by decide +kernel
theorem dX4_isTrusted_21 : decode cX4_isTrusted 21 = .ok (.iconst 0, 1) := by decide +kernel
theorem dX4_isTrusted_22 : decode cX4_isTrusted 22 = .ok (.ireturn, 1) := by decide +kernel
set_option maxRecDepth 20000 in
theorem ggX4_hangsOnKey_X4_isNoKey : GoodIn wsX4_hangsOnKey wsX4_isNoKey := goodIn_r _ [5, 6, 7, 8, 4, 9, 10, 11, 12, 13, 14, 53, 54, 55, 56, 57, 58, 59, 60, 61, 62, 63, 64, 65, 66, 67, 68, 69, 70, 71, 72, 73, 74, 75] (by decide +kernel) (by decide +kernel)
set_option maxRecDepth 20000 in
theorem gX4_hangsOnKey_X4_isNoKey : GoodIn wsX4_hangsOnKey (wsV RX4 89 RX4 yX4_isNoKey wsX4_isNoKey) := goodIn_app (goodIn_of _ (by decide +kernel)) ggX4_hangsOnKey_X4_isNoKey
set_option maxRecDepth 20000 in
theorem ggX4_hangsOnKey_X4_trusted : GoodIn wsX4_hangsOnKey wsX4_trusted := goodIn_r _ [18, 19, 20, 21, 4, 22, 23, 24, 25, 26, 27, 28, 29, 30, 31, 32, 33, 34, 35, 36, 37, 38, 39, 6, 40, 41, 42, 43, 44, 45, 46, 47, 48, 49, 7, 8, 9, 53, 54, 55, 56, 57, 58, 59, 60, 61, 62, 63, 64, 65, 66, 67, 68, 69, 70, 71, 72, 73, 74, 75] (by decide +kernel) (by decide +kernel)
set_option maxRecDepth 20000 in
theorem gX4_hangsOnKey_X4_trusted : GoodIn wsX4_hangsOnKey (wsV RX4 92 RX4 yX4_trusted wsX4_trusted) := goodIn_app (goodIn_of _ (by decide +kernel)) ggX4_hangsOnKey_X4_trusted
set_option maxRecDepth 20000 in
theorem ggX4_hangsOnKey_X4_trustedWithout : GoodIn wsX4_hangsOnKey wsX4_trustedWithout := goodIn_r _ [22, 23, 24, 25, 26, 4, 27, 28, 29, 30, 31, 32, 33, 34, 35, 36, 37, 38, 39, 6, 40, 41, 42, 43, 44, 45, 46, 47, 48, 49, 7, 8, 9, 53, 54, 55, 56, 57, 58, 59, 60, 61, 62, 63, 64, 65, 66, 67, 68, 69, 70, 71, 72, 73, 74, 75] (by decide +kernel) (by decide +kernel)
set_option maxRecDepth 20000 in
theorem gX4_hangsOnKey_X4_trustedWithout : GoodIn wsX4_hangsOnKey (wsV RX4 137 RX4 yX4_trustedWithout wsX4_trustedWithout) := goodIn_app (goodIn_of _ (by decide +kernel)) ggX4_hangsOnKey_X4_trustedWithout
set_option maxRecDepth 20000 in
theorem ggX4_hangsOnKey_X4_bits : GoodIn wsX4_hangsOnKey wsX4_bits := goodIn_r _ [52] (by decide +kernel) (by decide +kernel)
set_option maxRecDepth 20000 in
theorem gX4_hangsOnKey_X4_bits : GoodIn wsX4_hangsOnKey (va_wsS RX4 96 yX4_bits wsX4_bits) := goodIn_app (goodIn_of _ (by decide +kernel)) ggX4_hangsOnKey_X4_bits
theorem dX4_hangsOnKey_0 : decode cX4_hangsOnKey 0 = .ok (.aload_n 0, 1) := by decide +kernel
theorem dX4_hangsOnKey_1 : decode cX4_hangsOnKey 1 = .ok (.iload_n 1, 1) := by decide +kernel
theorem dX4_hangsOnKey_2 : decode cX4_hangsOnKey 2 = .ok (.invokevirtual 89, 3) := by decide +kernel
theorem dX4_hangsOnKey_5 : decode cX4_hangsOnKey 5 = .ok (.ifCond .eq 7, 3) := by decide +kernel
theorem dX4_hangsOnKey_8 : decode cX4_hangsOnKey 8 = .ok (.iconst 0, 1) := by decide +kernel
theorem dX4_hangsOnKey_9 : decode cX4_hangsOnKey 9 = .ok (.goto 18, 3) := by decide +kernel
theorem dX4_hangsOnKey_12 : decode cX4_hangsOnKey 12 = .ok (.aload_n 0, 1) := by decide +kernel
theorem dX4_hangsOnKey_13 : decode cX4_hangsOnKey 13 = .ok (.invokevirtual 92, 3) := by decide +kernel
theorem dX4_hangsOnKey_16 : decode cX4_hangsOnKey 16 = .ok (.aload_n 0, 1) := by decide +kernel
theorem dX4_hangsOnKey_17 : decode cX4_hangsOnKey 17 = .ok (.iload_n 1, 1) := by decide +kernel
theorem dX4_hangsOnKey_18 : decode cX4_hangsOnKey 18 = .ok (.invokevirtual 137, 3) := by decide +kernel
theorem dX4_hangsOnKey_21 : decode cX4_hangsOnKey 21 = .ok (.iconst (-1), 1) := by decide +kernel
theorem dX4_hangsOnKey_22 : decode cX4_hangsOnKey 22 = .ok (.ixor, 1) := by decide +kernel
theorem dX4_hangsOnKey_23 : decode cX4_hangsOnKey 23 = .ok (.iand, 1) := by decide +kernel
theorem dX4_hangsOnKey_24 : decode cX4_hangsOnKey 24 = .ok (.invokestatic 96, 3) := by decide +kernel
theorem dX4_hangsOnKey_27 : decode cX4_hangsOnKey 27 = .ok (.ireturn, 1) := by decide +kernel
theorem dX4_isGone_0 : decode cX4_isGone 0 = .ok (.aload_n 0, 1) := by decide +kernel
theorem dX4_isGone_1 : decode cX4_isGone 1 = .ok (.getfield 44, 3) := by decide +kernel
theorem dX4_isGone_4 : decode cX4_isGone 4 = .ok (.iload_n 1, 1) := by decide +kernel
theorem dX4_isGone_5 : decode cX4_isGone 5 = .ok (.baload, 1) := by decide +kernel
theorem dX4_isGone_6 : decode cX4_isGone 6 = .ok (.ifCond .eq 5, 3) := by decide +kernel
theorem dX4_isGone_9 : decode cX4_isGone 9 = .ok (.iconst 1, 1) := by decide +kernel
theorem dX4_isGone_10 : decode cX4_isGone 10 = .ok (.ireturn, 1) := by decide +kernel
theorem dX4_isGone_11 : decode cX4_isGone 11 = .ok (.iconst 0, 1) := by decide +kernel
theorem dX4_isGone_12 : decode cX4_isGone 12 = .ok (.istore_n 2, 1) := by decide +kernel
theorem dX4_isGone_13 : decode cX4_isGone 13 = .ok (.iload_n 2, 1) := by decide +kernel
theorem dX4_isGone_14 : decode cX4_isGone 14 = .ok (.iload_n 1, 1) := by decide +kernel
theorem dX4_isGone_15 : decode cX4_isGone 15 = .ok (.if_icmp .ge 34, 3) := by decide +kernel
theorem dX4_isGone_18 : decode cX4_isGone 18 = .ok (.aload_n 0, 1) := by decide +kernel
theorem dX4_isGone_19 : decode cX4_isGone 19 = .ok (.getfield 44, 3) := by decide +kernel
theorem dX4_isGone_22 : decode cX4_isGone 22 = .ok (.iload_n 2, 1) := by decide +kernel
theorem dX4_isGone_23 : decode cX4_isGone 23 = .ok (.baload, 1) := by decide +kernel
theorem dX4_isGone_24 : decode cX4_isGone 24 = .ok (.ifCond .eq 19, 3) := by decide +kernel
theorem dX4_isGone_27 : decode cX4_isGone 27 = .ok (.aload_n 0, 1) := by decide +kernel
theorem dX4_isGone_28 : decode cX4_isGone 28 = .ok (.getfield 35, 3) := by decide +kernel
theorem dX4_isGone_31 : decode cX4_isGone 31 = .ok (.iload_n 1, 1) := by decide +kernel
theorem dX4_isGone_32 : decode cX4_isGone 32 = .ok (.iaload, 1) := by decide +kernel
theorem dX4_isGone_33 : decode cX4_isGone 33 = .ok (.iload_n 2, 1) := by decide +kernel
theorem dX4_isGone_34 : decode cX4_isGone 34 = .ok (.ishr, 1) := by decide +kernel
theorem dX4_isGone_35 : decode cX4_isGone 35 = .ok (.iconst 1, 1) := by decide +kernel
theorem dX4_isGone_36 : decode cX4_isGone 36 = .ok (.iand, 1) := by decide +kernel
theorem dX4_isGone_37 : decode cX4_isGone 37 = .ok (.iconst 1, 1) := by decide +kernel
theorem dX4_isGone_38 : decode cX4_isGone 38 = .ok (.if_icmp .ne 5, 3) := by decide +kernel
theorem dX4_isGone_41 : decode cX4_isGone 41 = .ok (.iconst 1, 1) := by decide +kernel
theorem dX4_isGone_42 : decode cX4_isGone 42 = .ok (.ireturn, 1) := by decide +kernel
theorem dX4_isGone_43 : decode cX4_isGone 43 = .ok (.iinc 2 1, 3) := by decide +kernel
theorem dX4_isGone_46 : decode cX4_isGone 46 = .ok (.goto (-33), 3) := by decide +kernel
theorem dX4_isGone_49 : decode cX4_isGone 49 = .ok (.iconst 0, 1) := by decide +kernel
theorem dX4_isGone_50 : decode cX4_isGone 50 = .ok (.ireturn, 1) := by decide +kernel
set_option maxRecDepth 20000 in
theorem ggX4_recalled_X4_isGone : GoodIn wsX4_recalled wsX4_isGone := goodIn_r _ [6, 7, 8, 9, 10, 11, 12, 13, 14, 15, 16, 17, 18, 19, 20, 21, 22, 23, 24, 25, 26, 27, 28, 29, 30, 31] (by decide +kernel) (by decide +kernel)
set_option maxRecDepth 20000 in
theorem gX4_recalled_X4_isGone : GoodIn wsX4_recalled (wsV RX4 106 RX4 yX4_isGone wsX4_isGone) := goodIn_app (goodIn_of _ (by decide +kernel)) ggX4_recalled_X4_isGone
theorem dX4_recalled_0 : decode cX4_recalled 0 = .ok (.iconst 0, 1) := by decide +kernel
theorem dX4_recalled_1 : decode cX4_recalled 1 = .ok (.istore_n 1, 1) := by decide +kernel
theorem dX4_recalled_2 : decode cX4_recalled 2 = .ok (.iconst 0, 1) := by decide +kernel
theorem dX4_recalled_3 : decode cX4_recalled 3 = .ok (.istore_n 2, 1) := by decide +kernel
theorem dX4_recalled_4 : decode cX4_recalled 4 = .ok (.iload_n 2, 1) := by decide +kernel
theorem dX4_recalled_5 : decode cX4_recalled 5 = .ok (.aload_n 0, 1) := by decide +kernel
theorem dX4_recalled_6 : decode cX4_recalled 6 = .ok (.getfield 80, 3) := by decide +kernel
theorem dX4_recalled_9 : decode cX4_recalled 9 = .ok (.if_icmp .ge 23, 3) := by decide +kernel
theorem dX4_recalled_12 : decode cX4_recalled 12 = .ok (.aload_n 0, 1) := by decide +kernel
theorem dX4_recalled_13 : decode cX4_recalled 13 = .ok (.iload_n 2, 1) := by decide +kernel
theorem dX4_recalled_14 : decode cX4_recalled 14 = .ok (.invokevirtual 106, 3) := by decide +kernel
theorem dX4_recalled_17 : decode cX4_recalled 17 = .ok (.ifCond .eq 9, 3) := by decide +kernel
theorem dX4_recalled_20 : decode cX4_recalled 20 = .ok (.iload_n 1, 1) := by decide +kernel
theorem dX4_recalled_21 : decode cX4_recalled 21 = .ok (.iconst 1, 1) := by decide +kernel
theorem dX4_recalled_22 : decode cX4_recalled 22 = .ok (.iload_n 2, 1) := by decide +kernel
theorem dX4_recalled_23 : decode cX4_recalled 23 = .ok (.ishl, 1) := by decide +kernel
theorem dX4_recalled_24 : decode cX4_recalled 24 = .ok (.ior, 1) := by decide +kernel
theorem dX4_recalled_25 : decode cX4_recalled 25 = .ok (.istore_n 1, 1) := by decide +kernel
theorem dX4_recalled_26 : decode cX4_recalled 26 = .ok (.iinc 2 1, 3) := by decide +kernel
theorem dX4_recalled_29 : decode cX4_recalled 29 = .ok (.goto (-25), 3) := by decide +kernel
theorem dX4_recalled_32 : decode cX4_recalled 32 = .ok (.iload_n 1, 1) := by decide +kernel
theorem dX4_recalled_33 : decode cX4_recalled 33 = .ok (.ireturn, 1) := by decide +kernel
set_option maxRecDepth 20000 in
theorem ggX4_marks_X4_isNoBuild : GoodIn wsX4_marks wsX4_isNoBuild := goodIn_r _ [6, 7, 8, 9, 5, 10, 11, 12, 13, 14, 15, 28, 29, 30, 31, 32, 33, 34, 35, 36, 37, 38, 39, 40, 41, 42, 43, 44, 45, 46, 47, 48, 49, 50] (by decide +kernel) (by decide +kernel)
set_option maxRecDepth 20000 in
theorem gX4_marks_X4_isNoBuild : GoodIn wsX4_marks (wsV RX4 112 RX4 yX4_isNoBuild wsX4_isNoBuild) := goodIn_app (goodIn_of _ (by decide +kernel)) ggX4_marks_X4_isNoBuild
set_option maxRecDepth 20000 in
theorem ggX4_marks_X4_fails : GoodIn wsX4_marks wsX4_fails := goodIn_r _ [14, 15, 28, 29, 30, 31, 32, 33, 34, 35, 36, 37, 38, 39, 40, 41, 42, 43, 44, 45, 46, 47, 48, 49, 50] (by decide +kernel) (by decide +kernel)
set_option maxRecDepth 20000 in
theorem gX4_marks_X4_fails : GoodIn wsX4_marks (wsV RX4 76 RX4 yX4_fails wsX4_fails) := goodIn_app (goodIn_of _ (by decide +kernel)) ggX4_marks_X4_fails
set_option maxRecDepth 20000 in
theorem ggX4_marks_X4_recalled : GoodIn wsX4_marks wsX4_recalled := goodIn_r _ [19, 7, 20, 21, 22, 5, 23, 1, 24, 28, 29, 30, 31, 32, 33, 34, 35, 36, 37, 38, 39, 40, 41, 42, 43, 44, 45, 46, 47, 48, 49, 50] (by decide +kernel) (by decide +kernel)
set_option maxRecDepth 20000 in
theorem gX4_marks_X4_recalled : GoodIn wsX4_marks (wsV RX4 115 RX4 yX4_recalled wsX4_recalled) := goodIn_app (goodIn_of _ (by decide +kernel)) ggX4_marks_X4_recalled
set_option maxRecDepth 20000 in
theorem ggX4_marks_X4_bits : GoodIn wsX4_marks wsX4_bits := goodIn_r _ [27] (by decide +kernel) (by decide +kernel)
set_option maxRecDepth 20000 in
theorem gX4_marks_X4_bits : GoodIn wsX4_marks (va_wsS RX4 96 yX4_bits wsX4_bits) := goodIn_app (goodIn_of _ (by decide +kernel)) ggX4_marks_X4_bits
theorem dX4_marks_0 : decode cX4_marks 0 = .ok (.aload_n 0, 1) := by decide +kernel
theorem dX4_marks_1 : decode cX4_marks 1 = .ok (.iload_n 1, 1) := by decide +kernel
theorem dX4_marks_2 : decode cX4_marks 2 = .ok (.invokevirtual 112, 3) := by decide +kernel
theorem dX4_marks_5 : decode cX4_marks 5 = .ok (.ifCond .ne 25, 3) := by decide +kernel
theorem dX4_marks_8 : decode cX4_marks 8 = .ok (.aload_n 0, 1) := by decide +kernel
theorem dX4_marks_9 : decode cX4_marks 9 = .ok (.aload_n 0, 1) := by decide +kernel
theorem dX4_marks_10 : decode cX4_marks 10 = .ok (.getfield 44, 3) := by decide +kernel
theorem dX4_marks_13 : decode cX4_marks 13 = .ok (.iload_n 1, 1) := by decide +kernel
theorem dX4_marks_14 : decode cX4_marks 14 = .ok (.baload, 1) := by decide +kernel
theorem dX4_marks_15 : decode cX4_marks 15 = .ok (.iload_n 2, 1) := by decide +kernel
theorem dX4_marks_16 : decode cX4_marks 16 = .ok (.if_icmp .ne 7, 3) := by decide +kernel
theorem dX4_marks_19 : decode cX4_marks 19 = .ok (.iconst 2, 1) := by decide +kernel
theorem dX4_marks_20 : decode cX4_marks 20 = .ok (.goto 4, 3) := by decide +kernel
theorem dX4_marks_23 : decode cX4_marks 23 = .ok (.iconst 0, 1) := by decide +kernel
theorem dX4_marks_24 : decode cX4_marks 24 = .ok (.invokevirtual 76, 3) := by decide +kernel
theorem dX4_marks_27 : decode cX4_marks 27 = .ok (.ifCond .eq 5, 3) := by decide +kernel
theorem dX4_marks_30 : decode cX4_marks 30 = .ok (.iconst 0, 1) := by decide +kernel
theorem dX4_marks_31 : decode cX4_marks 31 = .ok (.ireturn, 1) := by decide +kernel
theorem dX4_marks_32 : decode cX4_marks 32 = .ok (.aload_n 0, 1) := by decide +kernel
theorem dX4_marks_33 : decode cX4_marks 33 = .ok (.invokevirtual 115, 3) := by decide +kernel
theorem dX4_marks_36 : decode cX4_marks 36 = .ok (.istore_n 3, 1) := by decide +kernel
theorem dX4_marks_37 : decode cX4_marks 37 = .ok (.aload_n 0, 1) := by decide +kernel
theorem dX4_marks_38 : decode cX4_marks 38 = .ok (.getfield 44, 3) := by decide +kernel
theorem dX4_marks_41 : decode cX4_marks 41 = .ok (.iload_n 1, 1) := by decide +kernel
theorem dX4_marks_42 : decode cX4_marks 42 = .ok (.iload_n 2, 1) := by decide +kernel
theorem dX4_marks_43 : decode cX4_marks 43 = .ok (.bastore, 1) := by decide +kernel
theorem dX4_marks_44 : decode cX4_marks 44 = .ok (.iload_n 3, 1) := by decide +kernel
theorem dX4_marks_45 : decode cX4_marks 45 = .ok (.aload_n 0, 1) := by decide +kernel
theorem dX4_marks_46 : decode cX4_marks 46 = .ok (.invokevirtual 115, 3) := by decide +kernel
theorem dX4_marks_49 : decode cX4_marks 49 = .ok (.ixor, 1) := by decide +kernel
theorem dX4_marks_50 : decode cX4_marks 50 = .ok (.invokestatic 96, 3) := by decide +kernel
theorem dX4_marks_53 : decode cX4_marks 53 = .ok (.ireturn, 1) := by decide +kernel
set_option maxRecDepth 20000 in
theorem ggX4_recall_X4_marks : GoodIn wsX4_recall wsX4_marks := goodIn_r _ [5, 6, 7, 8, 9, 4, 10, 11, 12, 13, 14, 15, 16, 17, 18, 19, 20, 21, 22, 23, 24, 25, 26, 27, 28, 29, 30, 31, 32, 33, 34, 35, 36, 37, 38, 39, 40, 41, 42, 43, 44, 45, 46, 47, 48, 49, 50, 51, 52, 53, 54] (by decide +kernel) (by decide +kernel)
set_option maxRecDepth 20000 in
theorem gX4_recall_X4_marks : GoodIn wsX4_recall (wsV RX4 146 RX4 yX4_marks wsX4_marks) := goodIn_app (goodIn_of _ (by decide +kernel)) ggX4_recall_X4_marks
theorem dX4_recall_0 : decode cX4_recall 0 = .ok (.aload_n 0, 1) := by decide +kernel
theorem dX4_recall_1 : decode cX4_recall 1 = .ok (.iload_n 1, 1) := by decide +kernel
theorem dX4_recall_2 : decode cX4_recall 2 = .ok (.iconst 1, 1) := by decide +kernel
theorem dX4_recall_3 : decode cX4_recall 3 = .ok (.invokevirtual 146, 3) := by decide +kernel
theorem dX4_recall_6 : decode cX4_recall 6 = .ok (.ireturn, 1) := by decide +kernel
set_option maxRecDepth 20000 in
theorem ggX4_lift_X4_marks : GoodIn wsX4_lift wsX4_marks := goodIn_r _ [5, 6, 7, 8, 9, 4, 10, 11, 12, 13, 14, 15, 16, 17, 18, 19, 20, 21, 22, 23, 24, 25, 26, 27, 28, 29, 30, 31, 32, 33, 34, 35, 36, 37, 38, 39, 40, 41, 42, 43, 44, 45, 46, 47, 48, 49, 50, 51, 52, 53, 54] (by decide +kernel) (by decide +kernel)
set_option maxRecDepth 20000 in
theorem gX4_lift_X4_marks : GoodIn wsX4_lift (wsV RX4 146 RX4 yX4_marks wsX4_marks) := goodIn_app (goodIn_of _ (by decide +kernel)) ggX4_lift_X4_marks
theorem dX4_lift_0 : decode cX4_lift 0 = .ok (.aload_n 0, 1) := by decide +kernel
theorem dX4_lift_1 : decode cX4_lift 1 = .ok (.iload_n 1, 1) := by decide +kernel
theorem dX4_lift_2 : decode cX4_lift 2 = .ok (.iconst 0, 1) := by decide +kernel
theorem dX4_lift_3 : decode cX4_lift 3 = .ok (.invokevirtual 146, 3) := by decide +kernel
theorem dX4_lift_6 : decode cX4_lift 6 = .ok (.ireturn, 1) := by decide +kernel
set_option maxRecDepth 20000 in
theorem ggX4_isRecalled_X4_isNoBuild : GoodIn wsX4_isRecalled wsX4_isNoBuild := goodIn_r _ [5, 6, 7, 8, 4, 9, 10, 11, 12, 13, 14, 21, 22, 23, 24, 25, 26, 27, 28, 29, 30, 31, 32, 33, 34, 35, 36, 37, 38, 39, 40, 41, 42, 43] (by decide +kernel) (by decide +kernel)
set_option maxRecDepth 20000 in
theorem gX4_isRecalled_X4_isNoBuild : GoodIn wsX4_isRecalled (wsV RX4 112 RX4 yX4_isNoBuild wsX4_isNoBuild) := goodIn_app (goodIn_of _ (by decide +kernel)) ggX4_isRecalled_X4_isNoBuild
set_option maxRecDepth 20000 in
theorem ggX4_isRecalled_X4_isGone : GoodIn wsX4_isRecalled wsX4_isGone := goodIn_r _ [18, 19, 20, 21, 22, 23, 24, 25, 26, 27, 28, 29, 30, 31, 32, 33, 34, 35, 36, 37, 38, 39, 40, 41, 42, 43] (by decide +kernel) (by decide +kernel)
set_option maxRecDepth 20000 in
theorem gX4_isRecalled_X4_isGone : GoodIn wsX4_isRecalled (wsV RX4 106 RX4 yX4_isGone wsX4_isGone) := goodIn_app (goodIn_of _ (by decide +kernel)) ggX4_isRecalled_X4_isGone
theorem dX4_isRecalled_0 : decode cX4_isRecalled 0 = .ok (.aload_n 0, 1) := by decide +kernel
theorem dX4_isRecalled_1 : decode cX4_isRecalled 1 = .ok (.iload_n 1, 1) := by decide +kernel
theorem dX4_isRecalled_2 : decode cX4_isRecalled 2 = .ok (.invokevirtual 112, 3) := by decide +kernel
theorem dX4_isRecalled_5 : decode cX4_isRecalled 5 = .ok (.ifCond .ne 15, 3) := by decide +kernel
theorem dX4_isRecalled_8 : decode cX4_isRecalled 8 = .ok (.aload_n 0, 1) := by decide +kernel
theorem dX4_isRecalled_9 : decode cX4_isRecalled 9 = .ok (.iload_n 1, 1) := by decide +kernel
theorem dX4_isRecalled_10 : decode cX4_isRecalled 10 = .ok (.invokevirtual 106, 3) := by decide +kernel
theorem dX4_isRecalled_13 : decode cX4_isRecalled 13 = .ok (.ifCond .eq 7, 3) := by decide +kernel
theorem dX4_isRecalled_16 : decode cX4_isRecalled 16 = .ok (.iconst 1, 1) := by decide +kernel
theorem dX4_isRecalled_17 : decode cX4_isRecalled 17 = .ok (.goto 4, 3) := by decide +kernel
theorem dX4_isRecalled_20 : decode cX4_isRecalled 20 = .ok (.iconst 0, 1) := by decide +kernel
theorem dX4_isRecalled_21 : decode cX4_isRecalled 21 = .ok (.ireturn, 1) := by decide +kernel
set_option maxRecDepth 20000 in
theorem ggX4_rebuild_X4_isNoBuild : GoodIn wsX4_rebuild wsX4_isNoBuild := goodIn_r _ [8, 9, 10, 11, 7, 12, 13, 14, 15, 16, 17, 18, 19, 20, 21, 22, 23, 24, 25, 26, 27, 28, 29, 30, 31, 32, 33, 34, 35, 36, 37, 38, 39, 40] (by decide +kernel) (by decide +kernel)
set_option maxRecDepth 20000 in
theorem gX4_rebuild_X4_isNoBuild : GoodIn wsX4_rebuild (wsV RX4 112 RX4 yX4_isNoBuild wsX4_isNoBuild) := goodIn_app (goodIn_of _ (by decide +kernel)) ggX4_rebuild_X4_isNoBuild
set_option maxRecDepth 20000 in
theorem ggX4_rebuild_X4_fails : GoodIn wsX4_rebuild wsX4_fails := goodIn_r _ [16, 17, 18, 19, 20, 21, 22, 23, 24, 25, 26, 27, 28, 29, 30, 31, 32, 33, 34, 35, 36, 37, 38, 39, 40] (by decide +kernel) (by decide +kernel)
set_option maxRecDepth 20000 in
theorem gX4_rebuild_X4_fails : GoodIn wsX4_rebuild (wsV RX4 76 RX4 yX4_fails wsX4_fails) := goodIn_app (goodIn_of _ (by decide +kernel)) ggX4_rebuild_X4_fails
theorem dX4_rebuild_0 : decode cX4_rebuild 0 = .ok (.aload_n 0, 1) := by decide +kernel
theorem dX4_rebuild_1 : decode cX4_rebuild 1 = .ok (.iload_n 1, 1) := by decide +kernel
theorem dX4_rebuild_2 : decode cX4_rebuild 2 = .ok (.invokevirtual 112, 3) := by decide +kernel
theorem dX4_rebuild_5 : decode cX4_rebuild 5 = .ok (.ifCond .ne 26, 3) := by decide +kernel
theorem dX4_rebuild_8 : decode cX4_rebuild 8 = .ok (.aload_n 0, 1) := by decide +kernel
theorem dX4_rebuild_9 : decode cX4_rebuild 9 = .ok (.aload_n 0, 1) := by decide +kernel
theorem dX4_rebuild_10 : decode cX4_rebuild 10 = .ok (.getfield 47, 3) := by decide +kernel
theorem dX4_rebuild_13 : decode cX4_rebuild 13 = .ok (.iload_n 1, 1) := by decide +kernel
theorem dX4_rebuild_14 : decode cX4_rebuild 14 = .ok (.iaload, 1) := by decide +kernel
theorem dX4_rebuild_15 : decode cX4_rebuild 15 = .ok (.bipush 99, 2) := by decide +kernel
theorem dX4_rebuild_17 : decode cX4_rebuild 17 = .ok (.if_icmp .ne 7, 3) := by decide +kernel
theorem dX4_rebuild_20 : decode cX4_rebuild 20 = .ok (.iconst 2, 1) := by decide +kernel
theorem dX4_rebuild_21 : decode cX4_rebuild 21 = .ok (.goto 4, 3) := by decide +kernel
theorem dX4_rebuild_24 : decode cX4_rebuild 24 = .ok (.iconst 0, 1) := by decide +kernel
theorem dX4_rebuild_25 : decode cX4_rebuild 25 = .ok (.invokevirtual 76, 3) := by decide +kernel
theorem dX4_rebuild_28 : decode cX4_rebuild 28 = .ok (.ifCond .eq 5, 3) := by decide +kernel
theorem dX4_rebuild_31 : decode cX4_rebuild 31 = .ok (.iconst 0, 1) := by decide +kernel
theorem dX4_rebuild_32 : decode cX4_rebuild 32 = .ok (.ireturn, 1) := by decide +kernel
theorem dX4_rebuild_33 : decode cX4_rebuild 33 = .ok (.aload_n 0, 1) := by decide +kernel
theorem dX4_rebuild_34 : decode cX4_rebuild 34 = .ok (.getfield 47, 3) := by decide +kernel
theorem dX4_rebuild_37 : decode cX4_rebuild 37 = .ok (.iload_n 1, 1) := by decide +kernel
theorem dX4_rebuild_38 : decode cX4_rebuild 38 = .ok (.dup2, 1) := by decide +kernel
theorem dX4_rebuild_39 : decode cX4_rebuild 39 = .ok (.iaload, 1) := by decide +kernel
theorem dX4_rebuild_40 : decode cX4_rebuild 40 = .ok (.iconst 1, 1) := by decide +kernel
theorem dX4_rebuild_41 : decode cX4_rebuild 41 = .ok (.iadd, 1) := by decide +kernel
theorem dX4_rebuild_42 : decode cX4_rebuild 42 = .ok (.iastore, 1) := by decide +kernel
theorem dX4_rebuild_43 : decode cX4_rebuild 43 = .ok (.aload_n 0, 1) := by decide +kernel
theorem dX4_rebuild_44 : decode cX4_rebuild 44 = .ok (.getfield 50, 3) := by decide +kernel
theorem dX4_rebuild_47 : decode cX4_rebuild 47 = .ok (.iload_n 1, 1) := by decide +kernel
theorem dX4_rebuild_48 : decode cX4_rebuild 48 = .ok (.dup2, 1) := by decide +kernel
theorem dX4_rebuild_49 : decode cX4_rebuild 49 = .ok (.iaload, 1) := by decide +kernel
theorem dX4_rebuild_50 : decode cX4_rebuild 50 = .ok (.aload_n 0, 1) := by decide +kernel
theorem dX4_rebuild_51 : decode cX4_rebuild 51 = .ok (.getfield 38, 3) := by decide +kernel
theorem dX4_rebuild_54 : decode cX4_rebuild 54 = .ok (.iload_n 1, 1) := by decide +kernel
theorem dX4_rebuild_55 : decode cX4_rebuild 55 = .ok (.iaload, 1) := by decide +kernel
theorem dX4_rebuild_56 : decode cX4_rebuild 56 = .ok (.iload_n 2, 1) := by decide +kernel
theorem dX4_rebuild_57 : decode cX4_rebuild 57 = .ok (.if_icmp .ne 7, 3) := by decide +kernel
theorem dX4_rebuild_60 : decode cX4_rebuild 60 = .ok (.iconst 1, 1) := by decide +kernel
theorem dX4_rebuild_61 : decode cX4_rebuild 61 = .ok (.goto 4, 3) := by decide +kernel
theorem dX4_rebuild_64 : decode cX4_rebuild 64 = .ok (.iconst 0, 1) := by decide +kernel
theorem dX4_rebuild_65 : decode cX4_rebuild 65 = .ok (.iadd, 1) := by decide +kernel
theorem dX4_rebuild_66 : decode cX4_rebuild 66 = .ok (.iastore, 1) := by decide +kernel
theorem dX4_rebuild_67 : decode cX4_rebuild 67 = .ok (.aload_n 0, 1) := by decide +kernel
theorem dX4_rebuild_68 : decode cX4_rebuild 68 = .ok (.getfield 38, 3) := by decide +kernel
theorem dX4_rebuild_71 : decode cX4_rebuild 71 = .ok (.iload_n 1, 1) := by decide +kernel
theorem dX4_rebuild_72 : decode cX4_rebuild 72 = .ok (.iaload, 1) := by decide +kernel
theorem dX4_rebuild_73 : decode cX4_rebuild 73 = .ok (.iload_n 2, 1) := by decide +kernel
theorem dX4_rebuild_74 : decode cX4_rebuild 74 = .ok (.if_icmp .ne 7, 3) := by decide +kernel
theorem dX4_rebuild_77 : decode cX4_rebuild 77 = .ok (.iconst 1, 1) := by decide +kernel
theorem dX4_rebuild_78 : decode cX4_rebuild 78 = .ok (.goto 4, 3) := by decide +kernel
theorem dX4_rebuild_81 : decode cX4_rebuild 81 = .ok (.iconst 0, 1) := by decide +kernel
theorem dX4_rebuild_82 : decode cX4_rebuild 82 = .ok (.ireturn, 1) := by decide +kernel
set_option maxRecDepth 20000 in
theorem ggX4_share_X4_isNoBuild : GoodIn wsX4_share wsX4_isNoBuild := goodIn_r _ [7, 8, 9, 10, 6, 11, 12, 13, 14, 15, 16, 17, 18, 19, 20, 21, 22, 23, 24, 25, 26, 27, 28, 29, 30, 31, 32, 33, 34, 35, 36, 37, 38, 39] (by decide +kernel) (by decide +kernel)
set_option maxRecDepth 20000 in
theorem gX4_share_X4_isNoBuild : GoodIn wsX4_share (wsV RX4 112 RX4 yX4_isNoBuild wsX4_isNoBuild) := goodIn_app (goodIn_of _ (by decide +kernel)) ggX4_share_X4_isNoBuild
set_option maxRecDepth 20000 in
theorem ggX4_share_X4_fails : GoodIn wsX4_share wsX4_fails := goodIn_r _ [15, 16, 17, 18, 19, 20, 21, 22, 23, 24, 25, 26, 27, 28, 29, 30, 31, 32, 33, 34, 35, 36, 37, 38, 39] (by decide +kernel) (by decide +kernel)
set_option maxRecDepth 20000 in
theorem gX4_share_X4_fails : GoodIn wsX4_share (wsV RX4 76 RX4 yX4_fails wsX4_fails) := goodIn_app (goodIn_of _ (by decide +kernel)) ggX4_share_X4_fails
theorem dX4_share_0 : decode cX4_share 0 = .ok (.aload_n 0, 1) := by decide +kernel
theorem dX4_share_1 : decode cX4_share 1 = .ok (.iload_n 1, 1) := by decide +kernel
theorem dX4_share_2 : decode cX4_share 2 = .ok (.invokevirtual 112, 3) := by decide +kernel
theorem dX4_share_5 : decode cX4_share 5 = .ok (.ifCond .ne 24, 3) := by decide +kernel
theorem dX4_share_8 : decode cX4_share 8 = .ok (.aload_n 0, 1) := by decide +kernel
theorem dX4_share_9 : decode cX4_share 9 = .ok (.aload_n 0, 1) := by decide +kernel
theorem dX4_share_10 : decode cX4_share 10 = .ok (.getfield 47, 3) := by decide +kernel
theorem dX4_share_13 : decode cX4_share 13 = .ok (.iload_n 1, 1) := by decide +kernel
theorem dX4_share_14 : decode cX4_share 14 = .ok (.iaload, 1) := by decide +kernel
theorem dX4_share_15 : decode cX4_share 15 = .ok (.ifCond .ne 7, 3) := by decide +kernel
theorem dX4_share_18 : decode cX4_share 18 = .ok (.iconst 2, 1) := by decide +kernel
theorem dX4_share_19 : decode cX4_share 19 = .ok (.goto 4, 3) := by decide +kernel
theorem dX4_share_22 : decode cX4_share 22 = .ok (.iconst 0, 1) := by decide +kernel
theorem dX4_share_23 : decode cX4_share 23 = .ok (.invokevirtual 76, 3) := by decide +kernel
theorem dX4_share_26 : decode cX4_share 26 = .ok (.ifCond .eq 7, 3) := by decide +kernel
theorem dX4_share_29 : decode cX4_share 29 = .ok (.fconst 0, 1) := by decide +kernel
theorem dX4_share_30 : decode cX4_share 30 = .ok (.goto 18, 3) := by decide +kernel
theorem dX4_share_33 : decode cX4_share 33 = .ok (.aload_n 0, 1) := by decide +kernel
theorem dX4_share_34 : decode cX4_share 34 = .ok (.getfield 50, 3) := by decide +kernel
theorem dX4_share_37 : decode cX4_share 37 = .ok (.iload_n 1, 1) := by decide +kernel
theorem dX4_share_38 : decode cX4_share 38 = .ok (.iaload, 1) := by decide +kernel
theorem dX4_share_39 : decode cX4_share 39 = .ok (.i2f, 1) := by decide +kernel
theorem dX4_share_40 : decode cX4_share 40 = .ok (.aload_n 0, 1) := by decide +kernel
theorem dX4_share_41 : decode cX4_share 41 = .ok (.getfield 47, 3) := by decide +kernel
theorem dX4_share_44 : decode cX4_share 44 = .ok (.iload_n 1, 1) := by decide +kernel
theorem dX4_share_45 : decode cX4_share 45 = .ok (.iaload, 1) := by decide +kernel
theorem dX4_share_46 : decode cX4_share 46 = .ok (.i2f, 1) := by decide +kernel
theorem dX4_share_47 : decode cX4_share 47 = .ok (.fdiv, 1) := by decide +kernel
theorem dX4_share_48 : decode cX4_share 48 = .ok (.freturn, 1) := by decide +kernel
set_option maxRecDepth 20000 in
theorem ggX4_addMirror_X4_fails : GoodIn wsX4_addMirror wsX4_fails := goodIn_r _ [6, 7, 8, 9, 10, 11, 12, 13, 14, 15, 16, 17, 18, 19, 20, 21, 22, 23, 24, 25, 26, 27, 28, 29, 30] (by decide +kernel) (by decide +kernel)
set_option maxRecDepth 20000 in
theorem gX4_addMirror_X4_fails : GoodIn wsX4_addMirror (wsV RX4 76 RX4 yX4_fails wsX4_fails) := goodIn_app (goodIn_of _ (by decide +kernel)) ggX4_addMirror_X4_fails
theorem dX4_addMirror_0 : decode cX4_addMirror 0 = .ok (.aload_n 0, 1) := by decide +kernel
theorem dX4_addMirror_1 : decode cX4_addMirror 1 = .ok (.aload_n 0, 1) := by decide +kernel
theorem dX4_addMirror_2 : decode cX4_addMirror 2 = .ok (.getfield 83, 3) := by decide +kernel
theorem dX4_addMirror_5 : decode cX4_addMirror 5 = .ok (.iconst 3, 1) := by decide +kernel
theorem dX4_addMirror_6 : decode cX4_addMirror 6 = .ok (.if_icmp .ne 7, 3) := by decide +kernel
theorem dX4_addMirror_9 : decode cX4_addMirror 9 = .ok (.iconst 1, 1) := by decide +kernel
theorem dX4_addMirror_10 : decode cX4_addMirror 10 = .ok (.goto 4, 3) := by decide +kernel
theorem dX4_addMirror_13 : decode cX4_addMirror 13 = .ok (.iconst 0, 1) := by decide +kernel
theorem dX4_addMirror_14 : decode cX4_addMirror 14 = .ok (.invokevirtual 76, 3) := by decide +kernel
theorem dX4_addMirror_17 : decode cX4_addMirror 17 = .ok (.ifCond .eq 5, 3) := by decide +kernel
theorem dX4_addMirror_20 : decode cX4_addMirror 20 = .ok (.iconst 0, 1) := by decide +kernel
theorem dX4_addMirror_21 : decode cX4_addMirror 21 = .ok (.ireturn, 1) := by decide +kernel
theorem dX4_addMirror_22 : decode cX4_addMirror 22 = .ok (.aload_n 0, 1) := by decide +kernel
theorem dX4_addMirror_23 : decode cX4_addMirror 23 = .ok (.dup, 1) := by decide +kernel
theorem dX4_addMirror_24 : decode cX4_addMirror 24 = .ok (.getfield 83, 3) := by decide +kernel
theorem dX4_addMirror_27 : decode cX4_addMirror 27 = .ok (.iconst 1, 1) := by decide +kernel
theorem dX4_addMirror_28 : decode cX4_addMirror 28 = .ok (.iadd, 1) := by decide +kernel
theorem dX4_addMirror_29 : decode cX4_addMirror 29 = .ok (.putfield 83, 3) := by decide +kernel
theorem dX4_addMirror_32 : decode cX4_addMirror 32 = .ok (.aload_n 0, 1) := by decide +kernel
theorem dX4_addMirror_33 : decode cX4_addMirror 33 = .ok (.getfield 83, 3) := by decide +kernel
theorem dX4_addMirror_36 : decode cX4_addMirror 36 = .ok (.iconst 1, 1) := by decide +kernel
theorem dX4_addMirror_37 : decode cX4_addMirror 37 = .ok (.isub, 1) := by decide +kernel
theorem dX4_addMirror_38 : decode cX4_addMirror 38 = .ok (.ireturn, 1) := by decide +kernel
set_option maxRecDepth 20000 in
theorem ggX4_update_X4_isNoMirror : GoodIn wsX4_update wsX4_isNoMirror := goodIn_r _ [10, 11, 12, 13, 9, 14, 15, 16, 17, 18, 19, 30, 31, 32, 33, 34, 35, 36, 37, 38, 39, 40, 41, 42, 43, 44, 45, 46, 47, 48, 49, 50, 51, 52] (by decide +kernel) (by decide +kernel)
set_option maxRecDepth 20000 in
theorem gX4_update_X4_isNoMirror : GoodIn wsX4_update (wsV RX4 150 RX4 yX4_isNoMirror wsX4_isNoMirror) := goodIn_app (goodIn_of _ (by decide +kernel)) ggX4_update_X4_isNoMirror
set_option maxRecDepth 20000 in
theorem ggX4_update_X4_recalled : GoodIn wsX4_update wsX4_recalled := goodIn_r _ [23, 2, 24, 25, 26, 9, 27, 28, 29, 30, 31, 32, 33, 34, 35, 36, 37, 38, 39, 40, 41, 42, 43, 44, 45, 46, 47, 48, 49, 50, 51, 52] (by decide +kernel) (by decide +kernel)
set_option maxRecDepth 20000 in
theorem gX4_update_X4_recalled : GoodIn wsX4_update (wsV RX4 115 RX4 yX4_recalled wsX4_recalled) := goodIn_app (goodIn_of _ (by decide +kernel)) ggX4_update_X4_recalled
theorem dX4_update_0 : decode cX4_update 0 = .ok (.aload_n 0, 1) := by decide +kernel
theorem dX4_update_1 : decode cX4_update 1 = .ok (.iload_n 1, 1) := by decide +kernel
theorem dX4_update_2 : decode cX4_update 2 = .ok (.invokevirtual 150, 3) := by decide +kernel
theorem dX4_update_5 : decode cX4_update 5 = .ok (.ifCond .eq 5, 3) := by decide +kernel
theorem dX4_update_8 : decode cX4_update 8 = .ok (.iconst 0, 1) := by decide +kernel
theorem dX4_update_9 : decode cX4_update 9 = .ok (.ireturn, 1) := by decide +kernel
theorem dX4_update_10 : decode cX4_update 10 = .ok (.aload_n 0, 1) := by decide +kernel
theorem dX4_update_11 : decode cX4_update 11 = .ok (.getfield 53, 3) := by decide +kernel
theorem dX4_update_14 : decode cX4_update 14 = .ok (.iload_n 1, 1) := by decide +kernel
theorem dX4_update_15 : decode cX4_update 15 = .ok (.iconst 1, 1) := by decide +kernel
theorem dX4_update_16 : decode cX4_update 16 = .ok (.aload_n 0, 1) := by decide +kernel
theorem dX4_update_17 : decode cX4_update 17 = .ok (.getfield 80, 3) := by decide +kernel
theorem dX4_update_20 : decode cX4_update 20 = .ok (.ishl, 1) := by decide +kernel
theorem dX4_update_21 : decode cX4_update 21 = .ok (.iconst 1, 1) := by decide +kernel
theorem dX4_update_22 : decode cX4_update 22 = .ok (.isub, 1) := by decide +kernel
theorem dX4_update_23 : decode cX4_update 23 = .ok (.iastore, 1) := by decide +kernel
theorem dX4_update_24 : decode cX4_update 24 = .ok (.aload_n 0, 1) := by decide +kernel
theorem dX4_update_25 : decode cX4_update 25 = .ok (.getfield 56, 3) := by decide +kernel
theorem dX4_update_28 : decode cX4_update 28 = .ok (.iload_n 1, 1) := by decide +kernel
theorem dX4_update_29 : decode cX4_update 29 = .ok (.aload_n 0, 1) := by decide +kernel
theorem dX4_update_30 : decode cX4_update 30 = .ok (.invokevirtual 115, 3) := by decide +kernel
theorem dX4_update_33 : decode cX4_update 33 = .ok (.iastore, 1) := by decide +kernel
theorem dX4_update_34 : decode cX4_update 34 = .ok (.aload_n 0, 1) := by decide +kernel
theorem dX4_update_35 : decode cX4_update 35 = .ok (.getfield 59, 3) := by decide +kernel
theorem dX4_update_38 : decode cX4_update 38 = .ok (.iload_n 1, 1) := by decide +kernel
theorem dX4_update_39 : decode cX4_update 39 = .ok (.aload_n 0, 1) := by decide +kernel
theorem dX4_update_40 : decode cX4_update 40 = .ok (.getfield 86, 3) := by decide +kernel
theorem dX4_update_43 : decode cX4_update 43 = .ok (.iastore, 1) := by decide +kernel
theorem dX4_update_44 : decode cX4_update 44 = .ok (.aload_n 0, 1) := by decide +kernel
theorem dX4_update_45 : decode cX4_update 45 = .ok (.getfield 80, 3) := by decide +kernel
theorem dX4_update_48 : decode cX4_update 48 = .ok (.ireturn, 1) := by decide +kernel
theorem dX4_isOld_0 : decode cX4_isOld 0 = .ok (.aload_n 0, 1) := by decide +kernel
theorem dX4_isOld_1 : decode cX4_isOld 1 = .ok (.getfield 59, 3) := by decide +kernel
theorem dX4_isOld_4 : decode cX4_isOld 4 = .ok (.iload_n 1, 1) := by decide +kernel
theorem dX4_isOld_5 : decode cX4_isOld 5 = .ok (.iaload, 1) := by decide +kernel
theorem dX4_isOld_6 : decode cX4_isOld 6 = .ok (.ifCond .lt 21, 3) := by decide +kernel
theorem dX4_isOld_9 : decode cX4_isOld 9 = .ok (.aload_n 0, 1) := by decide +kernel
theorem dX4_isOld_10 : decode cX4_isOld 10 = .ok (.getfield 86, 3) := by decide +kernel
theorem dX4_isOld_13 : decode cX4_isOld 13 = .ok (.aload_n 0, 1) := by decide +kernel
theorem dX4_isOld_14 : decode cX4_isOld 14 = .ok (.getfield 59, 3) := by decide +kernel
theorem dX4_isOld_17 : decode cX4_isOld 17 = .ok (.iload_n 1, 1) := by decide +kernel
theorem dX4_isOld_18 : decode cX4_isOld 18 = .ok (.iaload, 1) := by decide +kernel
theorem dX4_isOld_19 : decode cX4_isOld 19 = .ok (.isub, 1) := by decide +kernel
theorem dX4_isOld_20 : decode cX4_isOld 20 = .ok (.aload_n 0, 1) := by decide +kernel
theorem dX4_isOld_21 : decode cX4_isOld 21 = .ok (.getfield 62, 3) := by decide +kernel
theorem dX4_isOld_24 : decode cX4_isOld 24 = .ok (.if_icmp .le 7, 3) := by decide +kernel
theorem dX4_isOld_27 : decode cX4_isOld 27 = .ok (.iconst 1, 1) := by decide +kernel
theorem dX4_isOld_28 : decode cX4_isOld 28 = .ok (.goto 4, 3) := by decide +kernel
theorem dX4_isOld_31 : decode cX4_isOld 31 = .ok (.iconst 0, 1) := by decide +kernel
theorem dX4_isOld_32 : decode cX4_isOld 32 = .ok (.ireturn, 1) := by decide +kernel
set_option maxRecDepth 20000 in
theorem ggX4_isExpired_X4_isNoMirror : GoodIn wsX4_isExpired wsX4_isNoMirror := goodIn_r _ [5, 6, 7, 8, 4, 9, 10, 11, 12, 13, 14, 22, 23, 24, 25, 26, 27, 28, 29, 30, 31, 32, 33, 34, 35, 36, 37, 38, 39, 40, 41, 42, 43, 44] (by decide +kernel) (by decide +kernel)
set_option maxRecDepth 20000 in
theorem gX4_isExpired_X4_isNoMirror : GoodIn wsX4_isExpired (wsV RX4 150 RX4 yX4_isNoMirror wsX4_isNoMirror) := goodIn_app (goodIn_of _ (by decide +kernel)) ggX4_isExpired_X4_isNoMirror
set_option maxRecDepth 20000 in
theorem ggX4_isExpired_X4_isOld : GoodIn wsX4_isExpired wsX4_isOld := goodIn_r _ [18, 19, 20, 21, 22, 23, 24, 25, 26, 27, 28, 29, 30, 31, 32, 33, 34, 35, 36, 37, 38, 39, 40, 41, 42, 43, 44] (by decide +kernel) (by decide +kernel)
set_option maxRecDepth 20000 in
theorem gX4_isExpired_X4_isOld : GoodIn wsX4_isExpired (wsV RX4 153 RX4 yX4_isOld wsX4_isOld) := goodIn_app (goodIn_of _ (by decide +kernel)) ggX4_isExpired_X4_isOld
theorem dX4_isExpired_0 : decode cX4_isExpired 0 = .ok (.aload_n 0, 1) := by decide +kernel
theorem dX4_isExpired_1 : decode cX4_isExpired 1 = .ok (.iload_n 1, 1) := by decide +kernel
theorem dX4_isExpired_2 : decode cX4_isExpired 2 = .ok (.invokevirtual 150, 3) := by decide +kernel
theorem dX4_isExpired_5 : decode cX4_isExpired 5 = .ok (.ifCond .ne 15, 3) := by decide +kernel
theorem dX4_isExpired_8 : decode cX4_isExpired 8 = .ok (.aload_n 0, 1) := by decide +kernel
theorem dX4_isExpired_9 : decode cX4_isExpired 9 = .ok (.iload_n 1, 1) := by decide +kernel
theorem dX4_isExpired_10 : decode cX4_isExpired 10 = .ok (.invokevirtual 153, 3) := by decide +kernel
theorem dX4_isExpired_13 : decode cX4_isExpired 13 = .ok (.ifCond .eq 7, 3) := by decide +kernel
theorem dX4_isExpired_16 : decode cX4_isExpired 16 = .ok (.iconst 1, 1) := by decide +kernel
theorem dX4_isExpired_17 : decode cX4_isExpired 17 = .ok (.goto 4, 3) := by decide +kernel
theorem dX4_isExpired_20 : decode cX4_isExpired 20 = .ok (.iconst 0, 1) := by decide +kernel
theorem dX4_isExpired_21 : decode cX4_isExpired 21 = .ok (.ireturn, 1) := by decide +kernel
set_option maxRecDepth 20000 in
theorem ggX4_setExpiry_X4_in : GoodIn wsX4_setExpiry wsX4_in := goodIn_r _ [5] (by decide +kernel) (by decide +kernel)
set_option maxRecDepth 20000 in
theorem gX4_setExpiry_X4_in : GoodIn wsX4_setExpiry (va_wsS RX4 72 yX4_in wsX4_in) := goodIn_app (goodIn_of _ (by decide +kernel)) ggX4_setExpiry_X4_in
set_option maxRecDepth 20000 in
theorem ggX4_setExpiry_X4_fails : GoodIn wsX4_setExpiry wsX4_fails := goodIn_r _ [9, 10, 11, 12, 13, 14, 15, 16, 17, 18, 19, 20, 21, 22, 23, 24, 25, 26, 27, 28, 29, 30, 31, 32, 33] (by decide +kernel) (by decide +kernel)
set_option maxRecDepth 20000 in
theorem gX4_setExpiry_X4_fails : GoodIn wsX4_setExpiry (wsV RX4 76 RX4 yX4_fails wsX4_fails) := goodIn_app (goodIn_of _ (by decide +kernel)) ggX4_setExpiry_X4_fails
theorem dX4_setExpiry_0 : decode cX4_setExpiry 0 = .ok (.aload_n 0, 1) := by decide +kernel
theorem dX4_setExpiry_1 : decode cX4_setExpiry 1 = .ok (.iload_n 1, 1) := by decide +kernel
theorem dX4_setExpiry_2 : decode cX4_setExpiry 2 = .ok (.iconst 0, 1) := by decide +kernel
theorem dX4_setExpiry_3 : decode cX4_setExpiry 3 = .ok (.bipush 99, 2) := by decide +kernel
theorem dX4_setExpiry_5 : decode cX4_setExpiry 5 = .ok (.invokestatic 72, 3) := by decide +kernel
theorem dX4_setExpiry_8 : decode cX4_setExpiry 8 = .ok (.ifCond .eq 7, 3) := by decide +kernel
theorem dX4_setExpiry_11 : decode cX4_setExpiry 11 = .ok (.iconst 0, 1) := by decide +kernel
theorem dX4_setExpiry_12 : decode cX4_setExpiry 12 = .ok (.goto 4, 3) := by decide +kernel
theorem dX4_setExpiry_15 : decode cX4_setExpiry 15 = .ok (.iconst 1, 1) := by decide +kernel
theorem dX4_setExpiry_16 : decode cX4_setExpiry 16 = .ok (.invokevirtual 76, 3) := by decide +kernel
theorem dX4_setExpiry_19 : decode cX4_setExpiry 19 = .ok (.ifCond .eq 5, 3) := by decide +kernel
theorem dX4_setExpiry_22 : decode cX4_setExpiry 22 = .ok (.iconst 0, 1) := by decide +kernel
theorem dX4_setExpiry_23 : decode cX4_setExpiry 23 = .ok (.ireturn, 1) := by decide +kernel
theorem dX4_setExpiry_24 : decode cX4_setExpiry 24 = .ok (.aload_n 0, 1) := by decide +kernel
theorem dX4_setExpiry_25 : decode cX4_setExpiry 25 = .ok (.getfield 62, 3) := by decide +kernel
theorem dX4_setExpiry_28 : decode cX4_setExpiry 28 = .ok (.istore_n 2, 1) := by decide +kernel
theorem dX4_setExpiry_29 : decode cX4_setExpiry 29 = .ok (.aload_n 0, 1) := by decide +kernel
theorem dX4_setExpiry_30 : decode cX4_setExpiry 30 = .ok (.iload_n 1, 1) := by decide +kernel
theorem dX4_setExpiry_31 : decode cX4_setExpiry 31 = .ok (.putfield 62, 3) := by decide +kernel
theorem dX4_setExpiry_34 : decode cX4_setExpiry 34 = .ok (.iload_n 2, 1) := by decide +kernel
theorem dX4_setExpiry_35 : decode cX4_setExpiry 35 = .ok (.ireturn, 1) := by decide +kernel
set_option maxRecDepth 20000 in
theorem ggX4_install_X4_isNoMirror : GoodIn wsX4_install wsX4_isNoMirror := goodIn_r _ [7, 8, 9, 10, 6, 11, 12, 13, 14, 15, 16, 66, 67, 68, 69, 70, 71, 72, 73, 74, 75, 76, 77, 78, 79, 80, 81, 82, 83, 84, 85, 86, 87, 88] (by decide +kernel) (by decide +kernel)
set_option maxRecDepth 20000 in
theorem gX4_install_X4_isNoMirror : GoodIn wsX4_install (wsV RX4 150 RX4 yX4_isNoMirror wsX4_isNoMirror) := goodIn_app (goodIn_of _ (by decide +kernel)) ggX4_install_X4_isNoMirror
set_option maxRecDepth 20000 in
theorem ggX4_install_X4_isNoName : GoodIn wsX4_install wsX4_isNoName := goodIn_r _ [19, 9, 10, 6, 11] (by decide +kernel) (by decide +kernel)
set_option maxRecDepth 20000 in
theorem gX4_install_X4_isNoName : GoodIn wsX4_install (va_wsS RX4 103 yX4_isNoName wsX4_isNoName) := goodIn_app (goodIn_of _ (by decide +kernel)) ggX4_install_X4_isNoName
set_option maxRecDepth 20000 in
theorem ggX4_install_X4_isOld : GoodIn wsX4_install wsX4_isOld := goodIn_r _ [23, 24, 25, 26, 66, 67, 68, 69, 70, 71, 72, 73, 74, 75, 76, 77, 78, 79, 80, 81, 82, 83, 84, 85, 86, 87, 88] (by decide +kernel) (by decide +kernel)
set_option maxRecDepth 20000 in
theorem gX4_install_X4_isOld : GoodIn wsX4_install (wsV RX4 153 RX4 yX4_isOld wsX4_isOld) := goodIn_app (goodIn_of _ (by decide +kernel)) ggX4_install_X4_isOld
set_option maxRecDepth 20000 in
theorem ggX4_install_X4_fails : GoodIn wsX4_install wsX4_fails := goodIn_r _ [15, 16, 66, 67, 68, 69, 70, 71, 72, 73, 74, 75, 76, 77, 78, 79, 80, 81, 82, 83, 84, 85, 86, 87, 88] (by decide +kernel) (by decide +kernel)
set_option maxRecDepth 20000 in
theorem gX4_install_X4_fails : GoodIn wsX4_install (wsV RX4 76 RX4 yX4_fails wsX4_fails) := goodIn_app (goodIn_of _ (by decide +kernel)) ggX4_install_X4_fails
set_option maxRecDepth 20000 in
theorem ggX4_install_X4_trusted : GoodIn wsX4_install wsX4_trusted := goodIn_r _ [30, 31, 32, 33, 6, 34, 35, 36, 37, 38, 39, 40, 41, 42, 43, 44, 45, 46, 47, 48, 49, 50, 51, 52, 53, 54, 55, 56, 57, 58, 59, 25, 60, 61, 9, 10, 11, 66, 67, 68, 69, 70, 71, 72, 73, 74, 75, 76, 77, 78, 79, 80, 81, 82, 83, 84, 85, 86, 87, 88] (by decide +kernel) (by decide +kernel)
set_option maxRecDepth 20000 in
theorem gX4_install_X4_trusted : GoodIn wsX4_install (wsV RX4 92 RX4 yX4_trusted wsX4_trusted) := goodIn_app (goodIn_of _ (by decide +kernel)) ggX4_install_X4_trusted
set_option maxRecDepth 20000 in
theorem ggX4_install_X4_greatest : GoodIn wsX4_install wsX4_greatest := goodIn_r _ [65, 35, 41, 66, 67, 68, 69, 70, 71, 72, 73, 74, 75, 76, 77, 78, 79, 80, 81, 82, 83, 84, 85, 86, 87, 88] (by decide +kernel) (by decide +kernel)
set_option maxRecDepth 20000 in
theorem gX4_install_X4_greatest : GoodIn wsX4_install (wsV RX4 118 RX4 yX4_greatest wsX4_greatest) := goodIn_app (goodIn_of _ (by decide +kernel)) ggX4_install_X4_greatest
theorem dX4_install_0 : decode cX4_install 0 = .ok (.aload_n 0, 1) := by decide +kernel
theorem dX4_install_1 : decode cX4_install 1 = .ok (.iload_n 1, 1) := by decide +kernel
theorem dX4_install_2 : decode cX4_install 2 = .ok (.invokevirtual 150, 3) := by decide +kernel
theorem dX4_install_5 : decode cX4_install 5 = .ok (.ifCond .ne 34, 3) := by decide +kernel
theorem dX4_install_8 : decode cX4_install 8 = .ok (.aload_n 0, 1) := by decide +kernel
theorem dX4_install_9 : decode cX4_install 9 = .ok (.iload_n 2, 1) := by decide +kernel
theorem dX4_install_10 : decode cX4_install 10 = .ok (.invokestatic 103, 3) := by decide +kernel
theorem dX4_install_13 : decode cX4_install 13 = .ok (.ifCond .eq 7, 3) := by decide +kernel
theorem dX4_install_16 : decode cX4_install 16 = .ok (.iconst 2, 1) := by decide +kernel
theorem dX4_install_17 : decode cX4_install 17 = .ok (.goto 16, 3) := by decide +kernel
theorem dX4_install_20 : decode cX4_install 20 = .ok (.aload_n 0, 1) := by decide +kernel
theorem dX4_install_21 : decode cX4_install 21 = .ok (.iload_n 1, 1) := by decide +kernel
theorem dX4_install_22 : decode cX4_install 22 = .ok (.invokevirtual 153, 3) := by decide +kernel
theorem dX4_install_25 : decode cX4_install 25 = .ok (.ifCond .eq 7, 3) := by decide +kernel
theorem dX4_install_28 : decode cX4_install 28 = .ok (.iconst 3, 1) := by decide +kernel
theorem dX4_install_29 : decode cX4_install 29 = .ok (.goto 4, 3) := by decide +kernel
theorem dX4_install_32 : decode cX4_install 32 = .ok (.iconst 0, 1) := by decide +kernel
theorem dX4_install_33 : decode cX4_install 33 = .ok (.invokevirtual 76, 3) := by decide +kernel
theorem dX4_install_36 : decode cX4_install 36 = .ok (.ifCond .eq 5, 3) := by decide +kernel
theorem dX4_install_39 : decode cX4_install 39 = .ok (.iconst 0, 1) := by decide +kernel
theorem dX4_install_40 : decode cX4_install 40 = .ok (.ireturn, 1) := by decide +kernel
theorem dX4_install_41 : decode cX4_install 41 = .ok (.aload_n 0, 1) := by decide +kernel
theorem dX4_install_42 : decode cX4_install 42 = .ok (.iload_n 2, 1) := by decide +kernel
theorem dX4_install_43 : decode cX4_install 43 = .ok (.aload_n 0, 1) := by decide +kernel
theorem dX4_install_44 : decode cX4_install 44 = .ok (.getfield 53, 3) := by decide +kernel
theorem dX4_install_47 : decode cX4_install 47 = .ok (.iload_n 1, 1) := by decide +kernel
theorem dX4_install_48 : decode cX4_install 48 = .ok (.iaload, 1) := by decide +kernel
theorem dX4_install_49 : decode cX4_install 49 = .ok (.aload_n 0, 1) := by decide +kernel
theorem dX4_install_50 : decode cX4_install 50 = .ok (.getfield 56, 3) := by decide +kernel
theorem dX4_install_53 : decode cX4_install 53 = .ok (.iload_n 1, 1) := by decide +kernel
theorem dX4_install_54 : decode cX4_install 54 = .ok (.iaload, 1) := by decide +kernel
theorem dX4_install_55 : decode cX4_install 55 = .ok (.iconst (-1), 1) := by decide +kernel
theorem dX4_install_56 : decode cX4_install 56 = .ok (.ixor, 1) := by decide +kernel
theorem dX4_install_57 : decode cX4_install 57 = .ok (.iand, 1) := by decide +kernel
theorem dX4_install_58 : decode cX4_install 58 = .ok (.aload_n 0, 1) := by decide +kernel
theorem dX4_install_59 : decode cX4_install 59 = .ok (.invokevirtual 92, 3) := by decide +kernel
theorem dX4_install_62 : decode cX4_install 62 = .ok (.iand, 1) := by decide +kernel
theorem dX4_install_63 : decode cX4_install 63 = .ok (.invokevirtual 118, 3) := by decide +kernel
theorem dX4_install_66 : decode cX4_install 66 = .ok (.istore_n 3, 1) := by decide +kernel
theorem dX4_install_67 : decode cX4_install 67 = .ok (.aload_n 0, 1) := by decide +kernel
theorem dX4_install_68 : decode cX4_install 68 = .ok (.iload_n 3, 1) := by decide +kernel
theorem dX4_install_69 : decode cX4_install 69 = .ok (.ifCond .ge 7, 3) := by decide +kernel
theorem dX4_install_72 : decode cX4_install 72 = .ok (.iconst 4, 1) := by decide +kernel
theorem dX4_install_73 : decode cX4_install 73 = .ok (.goto 4, 3) := by decide +kernel
theorem dX4_install_76 : decode cX4_install 76 = .ok (.iconst 0, 1) := by decide +kernel
theorem dX4_install_77 : decode cX4_install 77 = .ok (.invokevirtual 76, 3) := by decide +kernel
theorem dX4_install_80 : decode cX4_install 80 = .ok (.ifCond .eq 7, 3) := by decide +kernel
theorem dX4_install_83 : decode cX4_install 83 = .ok (.iconst 0, 1) := by decide +kernel
theorem dX4_install_84 : decode cX4_install 84 = .ok (.goto 4, 3) := by decide +kernel
theorem dX4_install_87 : decode cX4_install 87 = .ok (.iload_n 3, 1) := by decide +kernel
theorem dX4_install_88 : decode cX4_install 88 = .ok (.ireturn, 1) := by decide +kernel
set_option maxRecDepth 20000 in
theorem ggX4_pass_X4_in : GoodIn wsX4_pass wsX4_in := goodIn_r _ [5] (by decide +kernel) (by decide +kernel)
set_option maxRecDepth 20000 in
theorem gX4_pass_X4_in : GoodIn wsX4_pass (va_wsS RX4 72 yX4_in wsX4_in) := goodIn_app (goodIn_of _ (by decide +kernel)) ggX4_pass_X4_in
set_option maxRecDepth 20000 in
theorem ggX4_pass_X4_fails : GoodIn wsX4_pass wsX4_fails := goodIn_r _ [9, 10, 49, 50, 51, 52, 53, 54, 55, 56, 57, 58, 59, 60, 61, 62, 63, 64, 65, 66, 67, 68, 69, 70, 71] (by decide +kernel) (by decide +kernel)
set_option maxRecDepth 20000 in
theorem gX4_pass_X4_fails : GoodIn wsX4_pass (wsV RX4 76 RX4 yX4_fails wsX4_fails) := goodIn_app (goodIn_of _ (by decide +kernel)) ggX4_pass_X4_fails
set_option maxRecDepth 20000 in
theorem ggX4_pass_X4_trusted : GoodIn wsX4_pass wsX4_trusted := goodIn_r _ [14, 15, 16, 17, 4, 18, 19, 20, 21, 22, 23, 24, 25, 26, 27, 28, 29, 30, 31, 32, 33, 34, 35, 36, 37, 38, 39, 40, 41, 42, 43, 1, 44, 45, 2, 3, 5, 49, 50, 51, 52, 53, 54, 55, 56, 57, 58, 59, 60, 61, 62, 63, 64, 65, 66, 67, 68, 69, 70, 71] (by decide +kernel) (by decide +kernel)
set_option maxRecDepth 20000 in
theorem gX4_pass_X4_trusted : GoodIn wsX4_pass (wsV RX4 92 RX4 yX4_trusted wsX4_trusted) := goodIn_app (goodIn_of _ (by decide +kernel)) ggX4_pass_X4_trusted
set_option maxRecDepth 20000 in
theorem ggX4_pass_X4_bits : GoodIn wsX4_pass wsX4_bits := goodIn_r _ [48] (by decide +kernel) (by decide +kernel)
set_option maxRecDepth 20000 in
theorem gX4_pass_X4_bits : GoodIn wsX4_pass (va_wsS RX4 96 yX4_bits wsX4_bits) := goodIn_app (goodIn_of _ (by decide +kernel)) ggX4_pass_X4_bits
theorem dX4_pass_0 : decode cX4_pass 0 = .ok (.aload_n 0, 1) := by decide +kernel
theorem dX4_pass_1 : decode cX4_pass 1 = .ok (.iload_n 1, 1) := by decide +kernel
theorem dX4_pass_2 : decode cX4_pass 2 = .ok (.iconst 1, 1) := by decide +kernel
theorem dX4_pass_3 : decode cX4_pass 3 = .ok (.bipush 60, 2) := by decide +kernel
theorem dX4_pass_5 : decode cX4_pass 5 = .ok (.invokestatic 72, 3) := by decide +kernel
theorem dX4_pass_8 : decode cX4_pass 8 = .ok (.ifCond .eq 19, 3) := by decide +kernel
theorem dX4_pass_11 : decode cX4_pass 11 = .ok (.aload_n 0, 1) := by decide +kernel
theorem dX4_pass_12 : decode cX4_pass 12 = .ok (.getfield 86, 3) := by decide +kernel
theorem dX4_pass_15 : decode cX4_pass 15 = .ok (.iload_n 1, 1) := by decide +kernel
theorem dX4_pass_16 : decode cX4_pass 16 = .ok (.iadd, 1) := by decide +kernel
theorem dX4_pass_17 : decode cX4_pass 17 = .ok (.sipush 999, 3) := by decide +kernel
theorem dX4_pass_20 : decode cX4_pass 20 = .ok (.if_icmp .gt 7, 3) := by decide +kernel
theorem dX4_pass_23 : decode cX4_pass 23 = .ok (.iconst 0, 1) := by decide +kernel
theorem dX4_pass_24 : decode cX4_pass 24 = .ok (.goto 4, 3) := by decide +kernel
theorem dX4_pass_27 : decode cX4_pass 27 = .ok (.iconst 1, 1) := by decide +kernel
theorem dX4_pass_28 : decode cX4_pass 28 = .ok (.invokevirtual 76, 3) := by decide +kernel
theorem dX4_pass_31 : decode cX4_pass 31 = .ok (.ifCond .eq 5, 3) := by decide +kernel
theorem dX4_pass_34 : decode cX4_pass 34 = .ok (.iconst 0, 1) := by decide +kernel
theorem dX4_pass_35 : decode cX4_pass 35 = .ok (.ireturn, 1) := by decide +kernel
theorem dX4_pass_36 : decode cX4_pass 36 = .ok (.aload_n 0, 1) := by decide +kernel
theorem dX4_pass_37 : decode cX4_pass 37 = .ok (.invokevirtual 92, 3) := by decide +kernel
theorem dX4_pass_40 : decode cX4_pass 40 = .ok (.istore_n 2, 1) := by decide +kernel
theorem dX4_pass_41 : decode cX4_pass 41 = .ok (.aload_n 0, 1) := by decide +kernel
theorem dX4_pass_42 : decode cX4_pass 42 = .ok (.dup, 1) := by decide +kernel
theorem dX4_pass_43 : decode cX4_pass 43 = .ok (.getfield 86, 3) := by decide +kernel
theorem dX4_pass_46 : decode cX4_pass 46 = .ok (.iload_n 1, 1) := by decide +kernel
theorem dX4_pass_47 : decode cX4_pass 47 = .ok (.iadd, 1) := by decide +kernel
theorem dX4_pass_48 : decode cX4_pass 48 = .ok (.putfield 86, 3) := by decide +kernel
theorem dX4_pass_51 : decode cX4_pass 51 = .ok (.iload_n 2, 1) := by decide +kernel
theorem dX4_pass_52 : decode cX4_pass 52 = .ok (.aload_n 0, 1) := by decide +kernel
theorem dX4_pass_53 : decode cX4_pass 53 = .ok (.invokevirtual 92, 3) := by decide +kernel
theorem dX4_pass_56 : decode cX4_pass 56 = .ok (.iconst (-1), 1) := by decide +kernel
theorem dX4_pass_57 : decode cX4_pass 57 = .ok (.ixor, 1) := by decide +kernel
theorem dX4_pass_58 : decode cX4_pass 58 = .ok (.iand, 1) := by decide +kernel
theorem dX4_pass_59 : decode cX4_pass 59 = .ok (.invokestatic 96, 3) := by decide +kernel
theorem dX4_pass_62 : decode cX4_pass 62 = .ok (.ireturn, 1) := by decide +kernel
set_option maxRecDepth 20000 in
theorem ggX4_day_X4_tells : GoodIn wsX4_day wsX4_tells := goodIn_r _ [6, 7, 8, 9, 10, 11, 12, 13, 14, 15, 16, 17, 18, 19, 20, 21, 22, 23, 24, 25, 26, 27, 28, 29, 30] (by decide +kernel) (by decide +kernel)
set_option maxRecDepth 20000 in
theorem gX4_day_X4_tells : GoodIn wsX4_day (wsV RX4 156 RX4 yX4_tells wsX4_tells) := goodIn_app (goodIn_of _ (by decide +kernel)) ggX4_day_X4_tells
theorem dX4_day_0 : decode cX4_day 0 = .ok (.aload_n 0, 1) := by decide +kernel
theorem dX4_day_1 : decode cX4_day 1 = .ok (.aload_n 0, 1) := by decide +kernel
theorem dX4_day_2 : decode cX4_day 2 = .ok (.getfield 86, 3) := by decide +kernel
theorem dX4_day_5 : decode cX4_day 5 = .ok (.invokevirtual 156, 3) := by decide +kernel
theorem dX4_day_8 : decode cX4_day 8 = .ok (.ireturn, 1) := by decide +kernel
set_option maxRecDepth 20000 in
theorem ggX4_scoreSumBits_X4_scoreOf : GoodIn wsX4_scoreSumBits wsX4_scoreOf := goodIn_r _ [7, 8, 9, 10, 11, 12, 6, 13, 14, 15, 16, 17, 18, 19, 20, 21, 22, 23, 24, 25, 26, 27, 40, 41, 42, 43, 44, 45, 46, 47, 48, 49, 50, 51, 52, 53, 54, 55, 56, 57, 58, 59, 60, 61, 62] (by decide +kernel) (by decide +kernel)
set_option maxRecDepth 20000 in
theorem gX4_scoreSumBits_X4_scoreOf : GoodIn wsX4_scoreSumBits (wsV RX4 130 RX4 yX4_scoreOf wsX4_scoreOf) := goodIn_app (goodIn_of _ (by decide +kernel)) ggX4_scoreSumBits_X4_scoreOf
set_option maxRecDepth 20000 in
theorem ggX4_scoreSumBits_Jxe99ae_doubleToLongBits_ccdee : GoodIn wsX4_scoreSumBits wsJxe99ae_doubleToLongBits_ccdee := goodIn_r _ [31, 32, 33, 34, 35, 36, 37, 38, 30, 39] (by decide +kernel) (by decide +kernel)
set_option maxRecDepth 20000 in
theorem gX4_scoreSumBits_Jxe99ae_doubleToLongBits_ccdee : GoodIn wsX4_scoreSumBits (va_wsS RX4 159 yJxe99ae_doubleToLongBits_ccdee wsJxe99ae_doubleToLongBits_ccdee) := goodIn_app (goodIn_of _ (by decide +kernel)) ggX4_scoreSumBits_Jxe99ae_doubleToLongBits_ccdee
theorem dX4_scoreSumBits_0 : decode cX4_scoreSumBits 0 = .ok (.aload_n 0, 1) := by decide +kernel
theorem dX4_scoreSumBits_1 : decode cX4_scoreSumBits 1 = .ok (.iconst 0, 1) := by decide +kernel
theorem dX4_scoreSumBits_2 : decode cX4_scoreSumBits 2 = .ok (.putfield 66, 3) := by decide +kernel
theorem dX4_scoreSumBits_5 : decode cX4_scoreSumBits 5 = .ok (.dconst 0, 1) := by decide +kernel
theorem dX4_scoreSumBits_6 : decode cX4_scoreSumBits 6 = .ok (.dstore_n 1, 1) := by decide +kernel
theorem dX4_scoreSumBits_7 : decode cX4_scoreSumBits 7 = .ok (.iconst 0, 1) := by decide +kernel
theorem dX4_scoreSumBits_8 : decode cX4_scoreSumBits 8 = .ok (.istore_n 3, 1) := by decide +kernel
theorem dX4_scoreSumBits_9 : decode cX4_scoreSumBits 9 = .ok (.iload_n 3, 1) := by decide +kernel
theorem dX4_scoreSumBits_10 : decode cX4_scoreSumBits 10 = .ok (.aload_n 0, 1) := by decide +kernel
theorem dX4_scoreSumBits_11 : decode cX4_scoreSumBits 11 = .ok (.getfield 80, 3) := by decide +kernel
theorem dX4_scoreSumBits_14 : decode cX4_scoreSumBits 14 = .ok (.if_icmp .ge 19, 3) := by decide +kernel
theorem dX4_scoreSumBits_17 : decode cX4_scoreSumBits 17 = .ok (.dload_n 1, 1) := by decide +kernel
theorem dX4_scoreSumBits_18 : decode cX4_scoreSumBits 18 = .ok (.aload_n 0, 1) := by decide +kernel
theorem dX4_scoreSumBits_19 : decode cX4_scoreSumBits 19 = .ok (.iload_n 3, 1) := by decide +kernel
theorem dX4_scoreSumBits_20 : decode cX4_scoreSumBits 20 = .ok (.iconst (-1), 1) := by decide +kernel
theorem dX4_scoreSumBits_21 : decode cX4_scoreSumBits 21 = .ok (.invokevirtual 130, 3) := by decide +kernel
theorem dX4_scoreSumBits_24 : decode cX4_scoreSumBits 24 = .ok (.f2d, 1) := by decide +kernel
theorem dX4_scoreSumBits_25 : decode cX4_scoreSumBits 25 = .ok (.dadd, 1) := by decide +kernel
theorem dX4_scoreSumBits_26 : decode cX4_scoreSumBits 26 = .ok (.dstore_n 1, 1) := by decide +kernel
theorem dX4_scoreSumBits_27 : decode cX4_scoreSumBits 27 = .ok (.iinc 3 1, 3) := by decide +kernel
theorem dX4_scoreSumBits_30 : decode cX4_scoreSumBits 30 = .ok (.goto (-21), 3) := by decide +kernel
theorem dX4_scoreSumBits_33 : decode cX4_scoreSumBits 33 = .ok (.dload_n 1, 1) := by decide +kernel
theorem dX4_scoreSumBits_34 : decode cX4_scoreSumBits 34 = .ok (.invokestatic 159, 3) := by decide +kernel
theorem dX4_scoreSumBits_37 : decode cX4_scoreSumBits 37 = .ok (.lreturn, 1) := by decide +kernel
theorem dJxe99ae_isNaN_b9ae7_0 : decode cJxe99ae_isNaN_b9ae7 0 = .ok (.dload_n 0, 1) := by decide +kernel
theorem dJxe99ae_isNaN_b9ae7_1 : decode cJxe99ae_isNaN_b9ae7 1 = .ok (.dload_n 0, 1) := by decide +kernel
theorem dJxe99ae_isNaN_b9ae7_2 : decode cJxe99ae_isNaN_b9ae7 2 = .ok (.dcmp .l, 1) := by decide +kernel
theorem dJxe99ae_isNaN_b9ae7_3 : decode cJxe99ae_isNaN_b9ae7 3 = .ok (.ifCond .eq 7, 3) := by decide +kernel
theorem dJxe99ae_isNaN_b9ae7_6 : decode cJxe99ae_isNaN_b9ae7 6 = .ok (.iconst 1, 1) := by decide +kernel
theorem dJxe99ae_isNaN_b9ae7_7 : decode cJxe99ae_isNaN_b9ae7 7 = .ok (.goto 4, 3) := by decide +kernel
theorem dJxe99ae_isNaN_b9ae7_10 : decode cJxe99ae_isNaN_b9ae7 10 = .ok (.iconst 0, 1) := by decide +kernel
theorem dJxe99ae_isNaN_b9ae7_11 : decode cJxe99ae_isNaN_b9ae7 11 = .ok (.ireturn, 1) := by decide +kernel
set_option maxRecDepth 20000 in
theorem ggJxe99ae_doubleToLongBits_ccdee_Jxe99ae_isNaN_b9ae7 : GoodIn wsJxe99ae_doubleToLongBits_ccdee wsJxe99ae_isNaN_b9ae7 := goodIn_r _ [9] (by decide +kernel) (by decide +kernel)
set_option maxRecDepth 20000 in
theorem gJxe99ae_doubleToLongBits_ccdee_Jxe99ae_isNaN_b9ae7 : GoodIn wsJxe99ae_doubleToLongBits_ccdee (va_wsS RJxe99ae 122 yJxe99ae_isNaN_b9ae7 wsJxe99ae_isNaN_b9ae7) := goodIn_app (goodIn_of _ (by decide +kernel)) ggJxe99ae_doubleToLongBits_ccdee_Jxe99ae_isNaN_b9ae7
theorem dJxe99ae_doubleToLongBits_ccdee_0 : decode cJxe99ae_doubleToLongBits_ccdee 0 = .ok (.dload_n 0, 1) := by decide +kernel
theorem dJxe99ae_doubleToLongBits_ccdee_1 : decode cJxe99ae_doubleToLongBits_ccdee 1 = .ok (.invokestatic 122, 3) := by decide +kernel
theorem dJxe99ae_doubleToLongBits_ccdee_4 : decode cJxe99ae_doubleToLongBits_ccdee 4 = .ok (.ifCond .ne 8, 3) := by decide +kernel
theorem dJxe99ae_doubleToLongBits_ccdee_7 : decode cJxe99ae_doubleToLongBits_ccdee 7 = .ok (.dload_n 0, 1) := by decide +kernel
theorem dJxe99ae_doubleToLongBits_ccdee_8 : decode cJxe99ae_doubleToLongBits_ccdee 8 = .ok (.invokestatic 134, 3) := by decide +kernel
theorem dJxe99ae_doubleToLongBits_ccdee_11 : decode cJxe99ae_doubleToLongBits_ccdee 11 = .ok (.lreturn, 1) := by decide +kernel
theorem dJxe99ae_doubleToLongBits_ccdee_12 : decode cJxe99ae_doubleToLongBits_ccdee 12 = .ok (.ldc2_w 137, 3) := by decide +kernel
theorem dJxe99ae_doubleToLongBits_ccdee_15 : decode cJxe99ae_doubleToLongBits_ccdee 15 = .ok (.lreturn, 1) := by decide +kernel
theorem dJxf58ca_isNaN_12338_0 : decode cJxf58ca_isNaN_12338 0 = .ok (.fload_n 0, 1) := by decide +kernel
theorem dJxf58ca_isNaN_12338_1 : decode cJxf58ca_isNaN_12338 1 = .ok (.fload_n 0, 1) := by decide +kernel
theorem dJxf58ca_isNaN_12338_2 : decode cJxf58ca_isNaN_12338 2 = .ok (.fcmp .l, 1) := by decide +kernel
theorem dJxf58ca_isNaN_12338_3 : decode cJxf58ca_isNaN_12338 3 = .ok (.ifCond .eq 7, 3) := by decide +kernel
theorem dJxf58ca_isNaN_12338_6 : decode cJxf58ca_isNaN_12338 6 = .ok (.iconst 1, 1) := by decide +kernel
theorem dJxf58ca_isNaN_12338_7 : decode cJxf58ca_isNaN_12338 7 = .ok (.goto 4, 3) := by decide +kernel
theorem dJxf58ca_isNaN_12338_10 : decode cJxf58ca_isNaN_12338 10 = .ok (.iconst 0, 1) := by decide +kernel
theorem dJxf58ca_isNaN_12338_11 : decode cJxf58ca_isNaN_12338 11 = .ok (.ireturn, 1) := by decide +kernel
set_option maxRecDepth 20000 in
theorem ggJxf58ca_floatToIntBits_5c35a_Jxf58ca_isNaN_12338 : GoodIn wsJxf58ca_floatToIntBits_5c35a wsJxf58ca_isNaN_12338 := goodIn_r _ [9] (by decide +kernel) (by decide +kernel)
set_option maxRecDepth 20000 in
theorem gJxf58ca_floatToIntBits_5c35a_Jxf58ca_isNaN_12338 : GoodIn wsJxf58ca_floatToIntBits_5c35a (va_wsS RJxf58ca 59 yJxf58ca_isNaN_12338 wsJxf58ca_isNaN_12338) := goodIn_app (goodIn_of _ (by decide +kernel)) ggJxf58ca_floatToIntBits_5c35a_Jxf58ca_isNaN_12338
theorem dJxf58ca_floatToIntBits_5c35a_0 : decode cJxf58ca_floatToIntBits_5c35a 0 = .ok (.fload_n 0, 1) := by decide +kernel
theorem dJxf58ca_floatToIntBits_5c35a_1 : decode cJxf58ca_floatToIntBits_5c35a 1 = .ok (.invokestatic 59, 3) := by decide +kernel
theorem dJxf58ca_floatToIntBits_5c35a_4 : decode cJxf58ca_floatToIntBits_5c35a 4 = .ok (.ifCond .ne 8, 3) := by decide +kernel
theorem dJxf58ca_floatToIntBits_5c35a_7 : decode cJxf58ca_floatToIntBits_5c35a 7 = .ok (.fload_n 0, 1) := by decide +kernel
theorem dJxf58ca_floatToIntBits_5c35a_8 : decode cJxf58ca_floatToIntBits_5c35a 8 = .ok (.invokestatic 74, 3) := by decide +kernel
theorem dJxf58ca_floatToIntBits_5c35a_11 : decode cJxf58ca_floatToIntBits_5c35a 11 = .ok (.ireturn, 1) := by decide +kernel
theorem dJxf58ca_floatToIntBits_5c35a_12 : decode cJxf58ca_floatToIntBits_5c35a 12 = .ok (.ldc 77, 2) := by decide +kernel
theorem dJxf58ca_floatToIntBits_5c35a_14 : decode cJxf58ca_floatToIntBits_5c35a 14 = .ok (.ireturn, 1) := by decide +kernel
theorem dJ6_bitCount_0f7a4_0 : decode cJ6_bitCount_0f7a4 0 = .ok (.iload_n 0, 1) := by decide +kernel
theorem dJ6_bitCount_0f7a4_1 : decode cJ6_bitCount_0f7a4 1 = .ok (.iload_n 0, 1) := by decide +kernel
theorem dJ6_bitCount_0f7a4_2 : decode cJ6_bitCount_0f7a4 2 = .ok (.iconst 1, 1) := by decide +kernel
theorem dJ6_bitCount_0f7a4_3 : decode cJ6_bitCount_0f7a4 3 = .ok (.iushr, 1) := by decide +kernel
theorem dJ6_bitCount_0f7a4_4 : decode cJ6_bitCount_0f7a4 4 = .ok (.ldc_w 265, 3) := by decide +kernel
theorem dJ6_bitCount_0f7a4_7 : decode cJ6_bitCount_0f7a4 7 = .ok (.iand, 1) := by decide +kernel
theorem dJ6_bitCount_0f7a4_8 : decode cJ6_bitCount_0f7a4 8 = .ok (.isub, 1) := by decide +kernel
theorem dJ6_bitCount_0f7a4_9 : decode cJ6_bitCount_0f7a4 9 = .ok (.istore_n 0, 1) := by decide +kernel
theorem dJ6_bitCount_0f7a4_10 : decode cJ6_bitCount_0f7a4 10 = .ok (.iload_n 0, 1) := by decide +kernel
theorem dJ6_bitCount_0f7a4_11 : decode cJ6_bitCount_0f7a4 11 = .ok (.ldc_w 266, 3) := by decide +kernel
theorem dJ6_bitCount_0f7a4_14 : decode cJ6_bitCount_0f7a4 14 = .ok (.iand, 1) := by decide +kernel
theorem dJ6_bitCount_0f7a4_15 : decode cJ6_bitCount_0f7a4 15 = .ok (.iload_n 0, 1) := by decide +kernel
theorem dJ6_bitCount_0f7a4_16 : decode cJ6_bitCount_0f7a4 16 = .ok (.iconst 2, 1) := by decide +kernel
theorem dJ6_bitCount_0f7a4_17 : decode cJ6_bitCount_0f7a4 17 = .ok (.iushr, 1) := by decide +kernel
theorem dJ6_bitCount_0f7a4_18 : decode cJ6_bitCount_0f7a4 18 = .ok (.ldc_w 266, 3) := by decide +kernel
theorem dJ6_bitCount_0f7a4_21 : decode cJ6_bitCount_0f7a4 21 = .ok (.iand, 1) := by decide +kernel
theorem dJ6_bitCount_0f7a4_22 : decode cJ6_bitCount_0f7a4 22 = .ok (.iadd, 1) := by decide +kernel
theorem dJ6_bitCount_0f7a4_23 : decode cJ6_bitCount_0f7a4 23 = .ok (.istore_n 0, 1) := by decide +kernel
theorem dJ6_bitCount_0f7a4_24 : decode cJ6_bitCount_0f7a4 24 = .ok (.iload_n 0, 1) := by decide +kernel
theorem dJ6_bitCount_0f7a4_25 : decode cJ6_bitCount_0f7a4 25 = .ok (.iload_n 0, 1) := by decide +kernel
theorem dJ6_bitCount_0f7a4_26 : decode cJ6_bitCount_0f7a4 26 = .ok (.iconst 4, 1) := by decide +kernel
theorem dJ6_bitCount_0f7a4_27 : decode cJ6_bitCount_0f7a4 27 = .ok (.iushr, 1) := by decide +kernel
theorem dJ6_bitCount_0f7a4_28 : decode cJ6_bitCount_0f7a4 28 = .ok (.iadd, 1) := by decide +kernel
theorem dJ6_bitCount_0f7a4_29 : decode cJ6_bitCount_0f7a4 29 = .ok (.ldc_w 267, 3) := by decide +kernel
theorem dJ6_bitCount_0f7a4_32 : decode cJ6_bitCount_0f7a4 32 = .ok (.iand, 1) := by decide +kernel
theorem dJ6_bitCount_0f7a4_33 : decode cJ6_bitCount_0f7a4 33 = .ok (.istore_n 0, 1) := by decide +kernel
theorem dJ6_bitCount_0f7a4_34 : decode cJ6_bitCount_0f7a4 34 = .ok (.iload_n 0, 1) := by decide +kernel
theorem dJ6_bitCount_0f7a4_35 : decode cJ6_bitCount_0f7a4 35 = .ok (.iload_n 0, 1) := by decide +kernel
theorem dJ6_bitCount_0f7a4_36 : decode cJ6_bitCount_0f7a4 36 = .ok (.bipush 8, 2) := by decide +kernel
theorem dJ6_bitCount_0f7a4_38 : decode cJ6_bitCount_0f7a4 38 = .ok (.iushr, 1) := by decide +kernel
theorem dJ6_bitCount_0f7a4_39 : decode cJ6_bitCount_0f7a4 39 = .ok (.iadd, 1) := by decide +kernel
theorem dJ6_bitCount_0f7a4_40 : decode cJ6_bitCount_0f7a4 40 = .ok (.istore_n 0, 1) := by decide +kernel
theorem dJ6_bitCount_0f7a4_41 : decode cJ6_bitCount_0f7a4 41 = .ok (.iload_n 0, 1) := by decide +kernel
theorem dJ6_bitCount_0f7a4_42 : decode cJ6_bitCount_0f7a4 42 = .ok (.iload_n 0, 1) := by decide +kernel
theorem dJ6_bitCount_0f7a4_43 : decode cJ6_bitCount_0f7a4 43 = .ok (.bipush 16, 2) := by decide +kernel
theorem dJ6_bitCount_0f7a4_45 : decode cJ6_bitCount_0f7a4 45 = .ok (.iushr, 1) := by decide +kernel
theorem dJ6_bitCount_0f7a4_46 : decode cJ6_bitCount_0f7a4 46 = .ok (.iadd, 1) := by decide +kernel
theorem dJ6_bitCount_0f7a4_47 : decode cJ6_bitCount_0f7a4 47 = .ok (.istore_n 0, 1) := by decide +kernel
theorem dJ6_bitCount_0f7a4_48 : decode cJ6_bitCount_0f7a4 48 = .ok (.iload_n 0, 1) := by decide +kernel
theorem dJ6_bitCount_0f7a4_49 : decode cJ6_bitCount_0f7a4 49 = .ok (.bipush 63, 2) := by decide +kernel
theorem dJ6_bitCount_0f7a4_51 : decode cJ6_bitCount_0f7a4 51 = .ok (.iand, 1) := by decide +kernel
theorem dJ6_bitCount_0f7a4_52 : decode cJ6_bitCount_0f7a4 52 = .ok (.ireturn, 1) := by decide +kernel
set_option maxRecDepth 20000 in
theorem ggL_addKey_X3_addKey : GoodIn wsL_addKey wsX3_addKey := goodIn_ca (goodIn_ca (goodIn_r _ [7, 8, 9, 10, 11, 12, 13, 14, 15, 16, 6, 17, 18, 19, 20, 21, 22, 23, 24, 25, 26, 27, 28, 29, 30, 31, 32, 33, 34, 35, 36, 37] (by decide +kernel) (by decide +kernel)) (goodIn_sub (fun _ h => List.mem_cons_of_mem _ (List.mem_append_left _ (List.mem_append_right _ h))) (by decide +kernel))) (goodIn_sub (fun _ h => List.mem_cons_of_mem _ (List.mem_append_right _ h)) (by decide +kernel))
set_option maxRecDepth 20000 in
theorem gL_addKey_X3_addKey : GoodIn wsL_addKey (wsV RL 7 RX3 yX3_addKey wsX3_addKey) := goodIn_app (goodIn_of _ (by decide +kernel)) ggL_addKey_X3_addKey
