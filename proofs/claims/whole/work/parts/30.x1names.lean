theorem dX1_init_0 : decode cX1_init 0 = .ok (.aload_n 0, 1) := by decide +kernel
theorem dX1_init_1 : decode cX1_init 1 = .ok (.invokespecial 1, 3) := by decide +kernel
theorem dX1_init_4 : decode cX1_init 4 = .ok (.aload_n 0, 1) := by decide +kernel
theorem dX1_init_5 : decode cX1_init 5 = .ok (.bipush 6, 2) := by decide +kernel
theorem dX1_init_7 : decode cX1_init 7 = .ok (.newarray .int, 2) := by decide +kernel
theorem dX1_init_9 : decode cX1_init 9 = .ok (.putfield 7, 3) := by decide +kernel
theorem dX1_init_12 : decode cX1_init 12 = .ok (.aload_n 0, 1) := by decide +kernel
theorem dX1_init_13 : decode cX1_init 13 = .ok (.bipush 6, 2) := by decide +kernel
theorem dX1_init_15 : decode cX1_init 15 = .ok (.newarray .int, 2) := by decide +kernel
theorem dX1_init_17 : decode cX1_init 17 = .ok (.putfield 13, 3) := by decide +kernel
theorem dX1_init_20 : decode cX1_init 20 = .ok (.aload_n 0, 1) := by decide +kernel
theorem dX1_init_21 : decode cX1_init 21 = .ok (.bipush 6, 2) := by decide +kernel
theorem dX1_init_23 : decode cX1_init 23 = .ok (.newarray .int, 2) := by decide +kernel
theorem dX1_init_25 : decode cX1_init 25 = .ok (.putfield 16, 3) := by decide +kernel
theorem dX1_init_28 : decode cX1_init 28 = .ok (.aload_n 0, 1) := by decide +kernel
theorem dX1_init_29 : decode cX1_init 29 = .ok (.bipush 12, 2) := by decide +kernel
theorem dX1_init_31 : decode cX1_init 31 = .ok (.newarray .int, 2) := by decide +kernel
theorem dX1_init_33 : decode cX1_init 33 = .ok (.putfield 19, 3) := by decide +kernel
theorem dX1_init_36 : decode cX1_init 36 = .ok (.aload_n 0, 1) := by decide +kernel
theorem dX1_init_37 : decode cX1_init 37 = .ok (.bipush 12, 2) := by decide +kernel
theorem dX1_init_39 : decode cX1_init 39 = .ok (.newarray .int, 2) := by decide +kernel
theorem dX1_init_41 : decode cX1_init 41 = .ok (.putfield 22, 3) := by decide +kernel
theorem dX1_init_44 : decode cX1_init 44 = .ok (.aload_n 0, 1) := by decide +kernel
theorem dX1_init_45 : decode cX1_init 45 = .ok (.bipush 9, 2) := by decide +kernel
theorem dX1_init_47 : decode cX1_init 47 = .ok (.newarray .int, 2) := by decide +kernel
theorem dX1_init_49 : decode cX1_init 49 = .ok (.putfield 25, 3) := by decide +kernel
theorem dX1_init_52 : decode cX1_init 52 = .ok (.aload_n 0, 1) := by decide +kernel
theorem dX1_init_53 : decode cX1_init 53 = .ok (.bipush 100, 2) := by decide +kernel
theorem dX1_init_55 : decode cX1_init 55 = .ok (.putfield 28, 3) := by decide +kernel
theorem dX1_init_58 : decode cX1_init 58 = .ok (.aload_n 0, 1) := by decide +kernel
theorem dX1_init_59 : decode cX1_init 59 = .ok (.bipush 11, 2) := by decide +kernel
theorem dX1_init_61 : decode cX1_init 61 = .ok (.newarray .int, 2) := by decide +kernel
theorem dX1_init_63 : decode cX1_init 63 = .ok (.putfield 32, 3) := by decide +kernel
theorem dX1_init_66 : decode cX1_init 66 = .ok (.aload_n 0, 1) := by decide +kernel
theorem dX1_init_67 : decode cX1_init 67 = .ok (.bipush 12, 2) := by decide +kernel
theorem dX1_init_69 : decode cX1_init 69 = .ok (.newarray .int, 2) := by decide +kernel
theorem dX1_init_71 : decode cX1_init 71 = .ok (.putfield 35, 3) := by decide +kernel
theorem dX1_init_74 : decode cX1_init 74 = .ok (.aload_n 0, 1) := by decide +kernel
theorem dX1_init_75 : decode cX1_init 75 = .ok (.bipush 8, 2) := by decide +kernel
theorem dX1_init_77 : decode cX1_init 77 = .ok (.newarray .int, 2) := by decide +kernel
theorem dX1_init_79 : decode cX1_init 79 = .ok (.putfield 38, 3) := by decide +kernel
theorem dX1_init_82 : decode cX1_init 82 = .ok (.aload_n 0, 1) := by decide +kernel
theorem dX1_init_83 : decode cX1_init 83 = .ok (.iconst 3, 1) := by decide +kernel
theorem dX1_init_84 : decode cX1_init 84 = .ok (.newarray .long, 2) := by decide +kernel
theorem dX1_init_86 : decode cX1_init 86 = .ok (.putfield 41, 3) := by decide +kernel
theorem dX1_init_89 : decode cX1_init 89 = .ok (.aload_n 0, 1) := by decide +kernel
theorem dX1_init_90 : decode cX1_init 90 = .ok (.sipush 366, 3) := by decide +kernel
theorem dX1_init_93 : decode cX1_init 93 = .ok (.newarray .int, 2) := by decide +kernel
theorem dX1_init_95 : decode cX1_init 95 = .ok (.putfield 45, 3) := by decide +kernel
theorem dX1_init_98 : decode cX1_init 98 = .ok (.aload_n 0, 1) := by decide +kernel
theorem dX1_init_99 : decode cX1_init 99 = .ok (.iconst 3, 1) := by decide +kernel
theorem dX1_init_100 : decode cX1_init 100 = .ok (.newarray .long, 2) := by decide +kernel
theorem dX1_init_102 : decode cX1_init 102 = .ok (.putfield 48, 3) := by decide +kernel
theorem dX1_init_105 : decode cX1_init 105 = .ok (.aload_n 0, 1) := by decide +kernel
theorem dX1_init_106 : decode cX1_init 106 = .ok (.bipush 6, 2) := by decide +kernel
theorem dX1_init_108 : decode cX1_init 108 = .ok (.newarray .long, 2) := by decide +kernel
theorem dX1_init_110 : decode cX1_init 110 = .ok (.putfield 51, 3) := by decide +kernel
theorem dX1_init_113 : decode cX1_init 113 = .ok (.iconst 0, 1) := by decide +kernel
theorem dX1_init_114 : decode cX1_init 114 = .ok (.istore_n 1, 1) := by decide +kernel
theorem dX1_init_115 : decode cX1_init 115 = .ok (.iload_n 1, 1) := by decide +kernel
theorem dX1_init_116 : decode cX1_init 116 = .ok (.bipush 6, 2) := by decide +kernel
theorem dX1_init_118 : decode cX1_init 118 = .ok (.if_icmp .ge 23, 3) := by decide +kernel
theorem dX1_init_121 : decode cX1_init 121 = .ok (.aload_n 0, 1) := by decide +kernel
theorem dX1_init_122 : decode cX1_init 122 = .ok (.getfield 7, 3) := by decide +kernel
theorem dX1_init_125 : decode cX1_init 125 = .ok (.iload_n 1, 1) := by decide +kernel
theorem dX1_init_126 : decode cX1_init 126 = .ok (.iconst 1, 1) := by decide +kernel
theorem dX1_init_127 : decode cX1_init 127 = .ok (.iastore, 1) := by decide +kernel
theorem dX1_init_128 : decode cX1_init 128 = .ok (.aload_n 0, 1) := by decide +kernel
theorem dX1_init_129 : decode cX1_init 129 = .ok (.getfield 13, 3) := by decide +kernel
theorem dX1_init_132 : decode cX1_init 132 = .ok (.iload_n 1, 1) := by decide +kernel
theorem dX1_init_133 : decode cX1_init 133 = .ok (.iconst 2, 1) := by decide +kernel
theorem dX1_init_134 : decode cX1_init 134 = .ok (.iastore, 1) := by decide +kernel
theorem dX1_init_135 : decode cX1_init 135 = .ok (.iinc 1 1, 3) := by decide +kernel
theorem dX1_init_138 : decode cX1_init 138 = .ok (.goto (-23), 3) := by decide +kernel
theorem dX1_init_141 : decode cX1_init 141 = .ok (.iconst 0, 1) := by decide +kernel
theorem dX1_init_142 : decode cX1_init 142 = .ok (.istore_n 1, 1) := by decide +kernel
theorem dX1_init_143 : decode cX1_init 143 = .ok (.iload_n 1, 1) := by decide +kernel
theorem dX1_init_144 : decode cX1_init 144 = .ok (.bipush 12, 2) := by decide +kernel
theorem dX1_init_146 : decode cX1_init 146 = .ok (.if_icmp .ge 27, 3) := by decide +kernel
theorem dX1_init_149 : decode cX1_init 149 = .ok (.aload_n 0, 1) := by decide +kernel
theorem dX1_init_150 : decode cX1_init 150 = .ok (.getfield 19, 3) := by decide +kernel
theorem dX1_init_153 : decode cX1_init 153 = .ok (.iload_n 1, 1) := by decide +kernel
theorem dX1_init_154 : decode cX1_init 154 = .ok (.iload_n 1, 1) := by decide +kernel
theorem dX1_init_155 : decode cX1_init 155 = .ok (.iconst 3, 1) := by decide +kernel
theorem dX1_init_156 : decode cX1_init 156 = .ok (.irem, 1) := by decide +kernel
theorem dX1_init_157 : decode cX1_init 157 = .ok (.iastore, 1) := by decide +kernel
theorem dX1_init_158 : decode cX1_init 158 = .ok (.aload_n 0, 1) := by decide +kernel
theorem dX1_init_159 : decode cX1_init 159 = .ok (.getfield 22, 3) := by decide +kernel
theorem dX1_init_162 : decode cX1_init 162 = .ok (.iload_n 1, 1) := by decide +kernel
theorem dX1_init_163 : decode cX1_init 163 = .ok (.iload_n 1, 1) := by decide +kernel
theorem dX1_init_164 : decode cX1_init 164 = .ok (.iconst 2, 1) := by decide +kernel
theorem dX1_init_165 : decode cX1_init 165 = .ok (.idiv, 1) := by decide +kernel
theorem dX1_init_166 : decode cX1_init 166 = .ok (.iastore, 1) := by decide +kernel
theorem dX1_init_167 : decode cX1_init 167 = .ok (.iinc 1 1, 3) := by decide +kernel
theorem dX1_init_170 : decode cX1_init 170 = .ok (.goto (-27), 3) := by decide +kernel
theorem dX1_init_173 : decode cX1_init 173 = .ok (.iconst 1, 1) := by decide +kernel
theorem dX1_init_174 : decode cX1_init 174 = .ok (.istore_n 1, 1) := by decide +kernel
theorem dX1_init_175 : decode cX1_init 175 = .ok (.iload_n 1, 1) := by decide +kernel
theorem dX1_init_176 : decode cX1_init 176 = .ok (.bipush 10, 2) := by decide +kernel
theorem dX1_init_178 : decode cX1_init 178 = .ok (.if_icmp .gt 18, 3) := by decide +kernel
theorem dX1_init_181 : decode cX1_init 181 = .ok (.aload_n 0, 1) := by decide +kernel
theorem dX1_init_182 : decode cX1_init 182 = .ok (.getfield 32, 3) := by decide +kernel
theorem dX1_init_185 : decode cX1_init 185 = .ok (.iload_n 1, 1) := by decide +kernel
theorem dX1_init_186 : decode cX1_init 186 = .ok (.iconst 5, 1) := by decide +kernel
theorem dX1_init_187 : decode cX1_init 187 = .ok (.iload_n 1, 1) := by decide +kernel
theorem dX1_init_188 : decode cX1_init 188 = .ok (.imul, 1) := by decide +kernel
theorem dX1_init_189 : decode cX1_init 189 = .ok (.iastore, 1) := by decide +kernel
theorem dX1_init_190 : decode cX1_init 190 = .ok (.iinc 1 1, 3) := by decide +kernel
theorem dX1_init_193 : decode cX1_init 193 = .ok (.goto (-18), 3) := by decide +kernel
theorem dX1_init_196 : decode cX1_init 196 = .ok (.return_, 1) := by decide +kernel
theorem dX1_thrown_0 : decode cX1_thrown 0 = .ok (.aload_n 0, 1) := by decide +kernel
theorem dX1_thrown_1 : decode cX1_thrown 1 = .ok (.getfield 54, 3) := by decide +kernel
theorem dX1_thrown_4 : decode cX1_thrown 4 = .ok (.ireturn, 1) := by decide +kernel
theorem dX1_isFine_0 : decode cX1_isFine 0 = .ok (.aload_n 0, 1) := by decide +kernel
theorem dX1_isFine_1 : decode cX1_isFine 1 = .ok (.iload_n 1, 1) := by decide +kernel
theorem dX1_isFine_2 : decode cX1_isFine 2 = .ok (.putfield 54, 3) := by decide +kernel
theorem dX1_isFine_5 : decode cX1_isFine 5 = .ok (.iload_n 1, 1) := by decide +kernel
theorem dX1_isFine_6 : decode cX1_isFine 6 = .ok (.ifCond .ne 7, 3) := by decide +kernel
theorem dX1_isFine_9 : decode cX1_isFine 9 = .ok (.iconst 1, 1) := by decide +kernel
theorem dX1_isFine_10 : decode cX1_isFine 10 = .ok (.goto 4, 3) := by decide +kernel
theorem dX1_isFine_13 : decode cX1_isFine 13 = .ok (.iconst 0, 1) := by decide +kernel
theorem dX1_isFine_14 : decode cX1_isFine 14 = .ok (.ireturn, 1) := by decide +kernel
theorem dX1_isIn_0 : decode cX1_isIn 0 = .ok (.iload_n 0, 1) := by decide +kernel
theorem dX1_isIn_1 : decode cX1_isIn 1 = .ok (.iload_n 1, 1) := by decide +kernel
theorem dX1_isIn_2 : decode cX1_isIn 2 = .ok (.if_icmp .lt 12, 3) := by decide +kernel
theorem dX1_isIn_5 : decode cX1_isIn 5 = .ok (.iload_n 0, 1) := by decide +kernel
theorem dX1_isIn_6 : decode cX1_isIn 6 = .ok (.iload_n 2, 1) := by decide +kernel
theorem dX1_isIn_7 : decode cX1_isIn 7 = .ok (.if_icmp .gt 7, 3) := by decide +kernel
theorem dX1_isIn_10 : decode cX1_isIn 10 = .ok (.iconst 1, 1) := by decide +kernel
theorem dX1_isIn_11 : decode cX1_isIn 11 = .ok (.goto 4, 3) := by decide +kernel
theorem dX1_isIn_14 : decode cX1_isIn 14 = .ok (.iconst 0, 1) := by decide +kernel
theorem dX1_isIn_15 : decode cX1_isIn 15 = .ok (.ireturn, 1) := by decide +kernel
set_option maxRecDepth 20000 in
theorem ggX1_isManual_X1_isIn : GoodIn wsX1_isManual wsX1_isIn := goodIn_r _ [4] (by decide +kernel) (by decide +kernel)
set_option maxRecDepth 20000 in
theorem gX1_isManual_X1_isIn : GoodIn wsX1_isManual (va_wsS RX1 57 yX1_isIn wsX1_isIn) := goodIn_app (goodIn_of _ (by decide +kernel)) ggX1_isManual_X1_isIn
theorem dX1_isManual_0 : decode cX1_isManual 0 = .ok (.iload_n 0, 1) := by decide +kernel
theorem dX1_isManual_1 : decode cX1_isManual 1 = .ok (.iconst 0, 1) := by decide +kernel
theorem dX1_isManual_2 : decode cX1_isManual 2 = .ok (.iconst 2, 1) := by decide +kernel
theorem dX1_isManual_3 : decode cX1_isManual 3 = .ok (.invokestatic 57, 3) := by decide +kernel
theorem dX1_isManual_6 : decode cX1_isManual 6 = .ok (.ireturn, 1) := by decide +kernel
set_option maxRecDepth 20000 in
theorem ggX1_isKey_X1_isIn : GoodIn wsX1_isKey wsX1_isIn := goodIn_r _ [4] (by decide +kernel) (by decide +kernel)
set_option maxRecDepth 20000 in
theorem gX1_isKey_X1_isIn : GoodIn wsX1_isKey (va_wsS RX1 57 yX1_isIn wsX1_isIn) := goodIn_app (goodIn_of _ (by decide +kernel)) ggX1_isKey_X1_isIn
theorem dX1_isKey_0 : decode cX1_isKey 0 = .ok (.iload_n 0, 1) := by decide +kernel
theorem dX1_isKey_1 : decode cX1_isKey 1 = .ok (.iconst 0, 1) := by decide +kernel
theorem dX1_isKey_2 : decode cX1_isKey 2 = .ok (.bipush 60, 2) := by decide +kernel
theorem dX1_isKey_4 : decode cX1_isKey 4 = .ok (.invokestatic 57, 3) := by decide +kernel
theorem dX1_isKey_7 : decode cX1_isKey 7 = .ok (.ireturn, 1) := by decide +kernel
set_option maxRecDepth 20000 in
theorem ggX1_isRank_X1_isIn : GoodIn wsX1_isRank wsX1_isIn := goodIn_r _ [4] (by decide +kernel) (by decide +kernel)
set_option maxRecDepth 20000 in
theorem gX1_isRank_X1_isIn : GoodIn wsX1_isRank (va_wsS RX1 57 yX1_isIn wsX1_isIn) := goodIn_app (goodIn_of _ (by decide +kernel)) ggX1_isRank_X1_isIn
theorem dX1_isRank_0 : decode cX1_isRank 0 = .ok (.iload_n 0, 1) := by decide +kernel
theorem dX1_isRank_1 : decode cX1_isRank 1 = .ok (.iconst 0, 1) := by decide +kernel
theorem dX1_isRank_2 : decode cX1_isRank 2 = .ok (.iconst 5, 1) := by decide +kernel
theorem dX1_isRank_3 : decode cX1_isRank 3 = .ok (.invokestatic 57, 3) := by decide +kernel
theorem dX1_isRank_6 : decode cX1_isRank 6 = .ok (.ireturn, 1) := by decide +kernel
theorem dX1_has_0 : decode cX1_has 0 = .ok (.lload_n 0, 1) := by decide +kernel
theorem dX1_has_1 : decode cX1_has 1 = .ok (.iload_n 2, 1) := by decide +kernel
theorem dX1_has_2 : decode cX1_has 2 = .ok (.lshr, 1) := by decide +kernel
theorem dX1_has_3 : decode cX1_has 3 = .ok (.lconst 1, 1) := by decide +kernel
theorem dX1_has_4 : decode cX1_has 4 = .ok (.land, 1) := by decide +kernel
theorem dX1_has_5 : decode cX1_has 5 = .ok (.lconst 1, 1) := by decide +kernel
theorem dX1_has_6 : decode cX1_has 6 = .ok (.lcmp, 1) := by decide +kernel
theorem dX1_has_7 : decode cX1_has 7 = .ok (.ifCond .ne 7, 3) := by decide +kernel
theorem dX1_has_10 : decode cX1_has 10 = .ok (.iconst 1, 1) := by decide +kernel
theorem dX1_has_11 : decode cX1_has 11 = .ok (.goto 4, 3) := by decide +kernel
theorem dX1_has_14 : decode cX1_has 14 = .ok (.iconst 0, 1) := by decide +kernel
theorem dX1_has_15 : decode cX1_has 15 = .ok (.ireturn, 1) := by decide +kernel
set_option maxRecDepth 20000 in
theorem ggX1_count_X1_has : GoodIn wsX1_count wsX1_has := goodIn_r _ [4] (by decide +kernel) (by decide +kernel)
set_option maxRecDepth 20000 in
theorem gX1_count_X1_has : GoodIn wsX1_count (va_wsS RX1 61 yX1_has wsX1_has) := goodIn_app (goodIn_of _ (by decide +kernel)) ggX1_count_X1_has
theorem dX1_count_0 : decode cX1_count 0 = .ok (.iconst 0, 1) := by decide +kernel
theorem dX1_count_1 : decode cX1_count 1 = .ok (.istore_n 2, 1) := by decide +kernel
theorem dX1_count_2 : decode cX1_count 2 = .ok (.iconst 0, 1) := by decide +kernel
theorem dX1_count_3 : decode cX1_count 3 = .ok (.istore_n 3, 1) := by decide +kernel
theorem dX1_count_4 : decode cX1_count 4 = .ok (.iload_n 3, 1) := by decide +kernel
theorem dX1_count_5 : decode cX1_count 5 = .ok (.bipush 61, 2) := by decide +kernel
theorem dX1_count_7 : decode cX1_count 7 = .ok (.if_icmp .ge 25, 3) := by decide +kernel
theorem dX1_count_10 : decode cX1_count 10 = .ok (.iload_n 2, 1) := by decide +kernel
theorem dX1_count_11 : decode cX1_count 11 = .ok (.lload_n 0, 1) := by decide +kernel
theorem dX1_count_12 : decode cX1_count 12 = .ok (.iload_n 3, 1) := by decide +kernel
theorem dX1_count_13 : decode cX1_count 13 = .ok (.invokestatic 61, 3) := by decide +kernel
theorem dX1_count_16 : decode cX1_count 16 = .ok (.ifCond .eq 7, 3) := by decide +kernel
theorem dX1_count_19 : decode cX1_count 19 = .ok (.iconst 1, 1) := by decide +kernel
theorem dX1_count_20 : decode cX1_count 20 = .ok (.goto 4, 3) := by decide +kernel
theorem dX1_count_23 : decode cX1_count 23 = .ok (.iconst 0, 1) := by decide +kernel
theorem dX1_count_24 : decode cX1_count 24 = .ok (.iadd, 1) := by decide +kernel
theorem dX1_count_25 : decode cX1_count 25 = .ok (.istore_n 2, 1) := by decide +kernel
theorem dX1_count_26 : decode cX1_count 26 = .ok (.iinc 3 1, 3) := by decide +kernel
theorem dX1_count_29 : decode cX1_count 29 = .ok (.goto (-25), 3) := by decide +kernel
theorem dX1_count_32 : decode cX1_count 32 = .ok (.iload_n 2, 1) := by decide +kernel
theorem dX1_count_33 : decode cX1_count 33 = .ok (.ireturn, 1) := by decide +kernel
set_option maxRecDepth 20000 in
theorem ggX1_setRank_X1_isRank : GoodIn wsX1_setRank wsX1_isRank := goodIn_r _ [7, 8, 9, 6, 10] (by decide +kernel) (by decide +kernel)
set_option maxRecDepth 20000 in
theorem gX1_setRank_X1_isRank : GoodIn wsX1_setRank (va_wsS RX1 65 yX1_isRank wsX1_isRank) := goodIn_app (goodIn_of _ (by decide +kernel)) ggX1_setRank_X1_isRank
set_option maxRecDepth 20000 in
theorem ggX1_setRank_X1_isIn : GoodIn wsX1_setRank wsX1_isIn := goodIn_r _ [10] (by decide +kernel) (by decide +kernel)
set_option maxRecDepth 20000 in
theorem gX1_setRank_X1_isIn : GoodIn wsX1_setRank (va_wsS RX1 57 yX1_isIn wsX1_isIn) := goodIn_app (goodIn_of _ (by decide +kernel)) ggX1_setRank_X1_isIn
set_option maxRecDepth 20000 in
theorem ggX1_setRank_X1_isFine : GoodIn wsX1_setRank wsX1_isFine := goodIn_r _ [14, 15, 16, 17, 18, 19, 20, 21, 22, 23, 24, 25, 26, 27, 28, 29, 30, 31] (by decide +kernel) (by decide +kernel)
set_option maxRecDepth 20000 in
theorem gX1_setRank_X1_isFine : GoodIn wsX1_setRank (wsV RX1 69 RX1 yX1_isFine wsX1_isFine) := goodIn_app (goodIn_of _ (by decide +kernel)) ggX1_setRank_X1_isFine
theorem dX1_setRank_0 : decode cX1_setRank 0 = .ok (.aload_n 0, 1) := by decide +kernel
theorem dX1_setRank_1 : decode cX1_setRank 1 = .ok (.iload_n 1, 1) := by decide +kernel
theorem dX1_setRank_2 : decode cX1_setRank 2 = .ok (.invokestatic 65, 3) := by decide +kernel
theorem dX1_setRank_5 : decode cX1_setRank 5 = .ok (.ifCond .eq 38, 3) := by decide +kernel
theorem dX1_setRank_8 : decode cX1_setRank 8 = .ok (.iload_n 2, 1) := by decide +kernel
theorem dX1_setRank_9 : decode cX1_setRank 9 = .ok (.iconst 0, 1) := by decide +kernel
theorem dX1_setRank_10 : decode cX1_setRank 10 = .ok (.iconst 3, 1) := by decide +kernel
theorem dX1_setRank_11 : decode cX1_setRank 11 = .ok (.invokestatic 57, 3) := by decide +kernel
theorem dX1_setRank_14 : decode cX1_setRank 14 = .ok (.ifCond .eq 29, 3) := by decide +kernel
theorem dX1_setRank_17 : decode cX1_setRank 17 = .ok (.iload_n 3, 1) := by decide +kernel
theorem dX1_setRank_18 : decode cX1_setRank 18 = .ok (.iconst 1, 1) := by decide +kernel
theorem dX1_setRank_19 : decode cX1_setRank 19 = .ok (.bipush 9, 2) := by decide +kernel
theorem dX1_setRank_21 : decode cX1_setRank 21 = .ok (.invokestatic 57, 3) := by decide +kernel
theorem dX1_setRank_24 : decode cX1_setRank 24 = .ok (.ifCond .eq 19, 3) := by decide +kernel
theorem dX1_setRank_27 : decode cX1_setRank 27 = .ok (.iload 4, 2) := by decide +kernel
theorem dX1_setRank_29 : decode cX1_setRank 29 = .ok (.bipush (-50), 2) := by decide +kernel
theorem dX1_setRank_31 : decode cX1_setRank 31 = .ok (.bipush 50, 2) := by decide +kernel
theorem dX1_setRank_33 : decode cX1_setRank 33 = .ok (.invokestatic 57, 3) := by decide +kernel
theorem dX1_setRank_36 : decode cX1_setRank 36 = .ok (.ifCond .eq 7, 3) := by decide +kernel
theorem dX1_setRank_39 : decode cX1_setRank 39 = .ok (.iconst 0, 1) := by decide +kernel
theorem dX1_setRank_40 : decode cX1_setRank 40 = .ok (.goto 4, 3) := by decide +kernel
theorem dX1_setRank_43 : decode cX1_setRank 43 = .ok (.iconst 1, 1) := by decide +kernel
theorem dX1_setRank_44 : decode cX1_setRank 44 = .ok (.invokevirtual 69, 3) := by decide +kernel
theorem dX1_setRank_47 : decode cX1_setRank 47 = .ok (.ifCond .eq 25, 3) := by decide +kernel
theorem dX1_setRank_50 : decode cX1_setRank 50 = .ok (.aload_n 0, 1) := by decide +kernel
theorem dX1_setRank_51 : decode cX1_setRank 51 = .ok (.getfield 7, 3) := by decide +kernel
theorem dX1_setRank_54 : decode cX1_setRank 54 = .ok (.iload_n 1, 1) := by decide +kernel
theorem dX1_setRank_55 : decode cX1_setRank 55 = .ok (.iload_n 2, 1) := by decide +kernel
theorem dX1_setRank_56 : decode cX1_setRank 56 = .ok (.iastore, 1) := by decide +kernel
theorem dX1_setRank_57 : decode cX1_setRank 57 = .ok (.aload_n 0, 1) := by decide +kernel
theorem dX1_setRank_58 : decode cX1_setRank 58 = .ok (.getfield 13, 3) := by decide +kernel
theorem dX1_setRank_61 : decode cX1_setRank 61 = .ok (.iload_n 1, 1) := by decide +kernel
theorem dX1_setRank_62 : decode cX1_setRank 62 = .ok (.iload_n 3, 1) := by decide +kernel
theorem dX1_setRank_63 : decode cX1_setRank 63 = .ok (.iastore, 1) := by decide +kernel
theorem dX1_setRank_64 : decode cX1_setRank 64 = .ok (.aload_n 0, 1) := by decide +kernel
theorem dX1_setRank_65 : decode cX1_setRank 65 = .ok (.getfield 16, 3) := by decide +kernel
theorem dX1_setRank_68 : decode cX1_setRank 68 = .ok (.iload_n 1, 1) := by decide +kernel
theorem dX1_setRank_69 : decode cX1_setRank 69 = .ok (.iload 4, 2) := by decide +kernel
theorem dX1_setRank_71 : decode cX1_setRank 71 = .ok (.iastore, 1) := by decide +kernel
theorem dX1_setRank_72 : decode cX1_setRank 72 = .ok (.return_, 1) := by decide +kernel
set_option maxRecDepth 20000 in
theorem ggX1_setStop_X1_isIn : GoodIn wsX1_setStop wsX1_isIn := goodIn_r _ [7] (by decide +kernel) (by decide +kernel)
set_option maxRecDepth 20000 in
theorem gX1_setStop_X1_isIn : GoodIn wsX1_setStop (va_wsS RX1 57 yX1_isIn wsX1_isIn) := goodIn_app (goodIn_of _ (by decide +kernel)) ggX1_setStop_X1_isIn
set_option maxRecDepth 20000 in
theorem ggX1_setStop_X1_isManual : GoodIn wsX1_setStop wsX1_isManual := goodIn_r _ [10, 4, 5, 6, 7] (by decide +kernel) (by decide +kernel)
set_option maxRecDepth 20000 in
theorem gX1_setStop_X1_isManual : GoodIn wsX1_setStop (va_wsS RX1 72 yX1_isManual wsX1_isManual) := goodIn_app (goodIn_of _ (by decide +kernel)) ggX1_setStop_X1_isManual
set_option maxRecDepth 20000 in
theorem ggX1_setStop_X1_isRank : GoodIn wsX1_setStop wsX1_isRank := goodIn_r _ [13, 4, 5, 6, 7] (by decide +kernel) (by decide +kernel)
set_option maxRecDepth 20000 in
theorem gX1_setStop_X1_isRank : GoodIn wsX1_setStop (va_wsS RX1 65 yX1_isRank wsX1_isRank) := goodIn_app (goodIn_of _ (by decide +kernel)) ggX1_setStop_X1_isRank
set_option maxRecDepth 20000 in
theorem ggX1_setStop_X1_has : GoodIn wsX1_setStop wsX1_has := goodIn_r _ [16] (by decide +kernel) (by decide +kernel)
set_option maxRecDepth 20000 in
theorem gX1_setStop_X1_has : GoodIn wsX1_setStop (va_wsS RX1 61 yX1_has wsX1_has) := goodIn_app (goodIn_of _ (by decide +kernel)) ggX1_setStop_X1_has
set_option maxRecDepth 20000 in
theorem ggX1_setStop_X1_isFine : GoodIn wsX1_setStop wsX1_isFine := goodIn_r _ [20, 21, 22, 23, 24, 25, 26, 27, 28, 29, 30, 31, 32, 33, 34, 35, 36, 37] (by decide +kernel) (by decide +kernel)
set_option maxRecDepth 20000 in
theorem gX1_setStop_X1_isFine : GoodIn wsX1_setStop (wsV RX1 69 RX1 yX1_isFine wsX1_isFine) := goodIn_app (goodIn_of _ (by decide +kernel)) ggX1_setStop_X1_isFine
theorem dX1_setStop_0 : decode cX1_setStop 0 = .ok (.iload_n 1, 1) := by decide +kernel
theorem dX1_setStop_1 : decode cX1_setStop 1 = .ok (.iconst 0, 1) := by decide +kernel
theorem dX1_setStop_2 : decode cX1_setStop 2 = .ok (.bipush 11, 2) := by decide +kernel
theorem dX1_setStop_4 : decode cX1_setStop 4 = .ok (.invokestatic 57, 3) := by decide +kernel
theorem dX1_setStop_7 : decode cX1_setStop 7 = .ok (.ifCond .eq 21, 3) := by decide +kernel
theorem dX1_setStop_10 : decode cX1_setStop 10 = .ok (.iload_n 2, 1) := by decide +kernel
theorem dX1_setStop_11 : decode cX1_setStop 11 = .ok (.invokestatic 72, 3) := by decide +kernel
theorem dX1_setStop_14 : decode cX1_setStop 14 = .ok (.ifCond .eq 14, 3) := by decide +kernel
theorem dX1_setStop_17 : decode cX1_setStop 17 = .ok (.iload_n 3, 1) := by decide +kernel
theorem dX1_setStop_18 : decode cX1_setStop 18 = .ok (.invokestatic 65, 3) := by decide +kernel
theorem dX1_setStop_21 : decode cX1_setStop 21 = .ok (.ifCond .eq 7, 3) := by decide +kernel
theorem dX1_setStop_24 : decode cX1_setStop 24 = .ok (.iconst 1, 1) := by decide +kernel
theorem dX1_setStop_25 : decode cX1_setStop 25 = .ok (.goto 4, 3) := by decide +kernel
theorem dX1_setStop_28 : decode cX1_setStop 28 = .ok (.iconst 0, 1) := by decide +kernel
theorem dX1_setStop_29 : decode cX1_setStop 29 = .ok (.istore 4, 2) := by decide +kernel
theorem dX1_setStop_31 : decode cX1_setStop 31 = .ok (.aload_n 0, 1) := by decide +kernel
theorem dX1_setStop_32 : decode cX1_setStop 32 = .ok (.iload 4, 2) := by decide +kernel
theorem dX1_setStop_34 : decode cX1_setStop 34 = .ok (.ifCond .ne 7, 3) := by decide +kernel
theorem dX1_setStop_37 : decode cX1_setStop 37 = .ok (.iconst 1, 1) := by decide +kernel
theorem dX1_setStop_38 : decode cX1_setStop 38 = .ok (.goto 20, 3) := by decide +kernel
theorem dX1_setStop_41 : decode cX1_setStop 41 = .ok (.aload_n 0, 1) := by decide +kernel
theorem dX1_setStop_42 : decode cX1_setStop 42 = .ok (.getfield 75, 3) := by decide +kernel
theorem dX1_setStop_45 : decode cX1_setStop 45 = .ok (.i2l, 1) := by decide +kernel
theorem dX1_setStop_46 : decode cX1_setStop 46 = .ok (.iload_n 1, 1) := by decide +kernel
theorem dX1_setStop_47 : decode cX1_setStop 47 = .ok (.invokestatic 61, 3) := by decide +kernel
theorem dX1_setStop_50 : decode cX1_setStop 50 = .ok (.ifCond .eq 7, 3) := by decide +kernel
theorem dX1_setStop_53 : decode cX1_setStop 53 = .ok (.iconst 2, 1) := by decide +kernel
theorem dX1_setStop_54 : decode cX1_setStop 54 = .ok (.goto 4, 3) := by decide +kernel
theorem dX1_setStop_57 : decode cX1_setStop 57 = .ok (.iconst 0, 1) := by decide +kernel
theorem dX1_setStop_58 : decode cX1_setStop 58 = .ok (.invokevirtual 69, 3) := by decide +kernel
theorem dX1_setStop_61 : decode cX1_setStop 61 = .ok (.ifCond .eq 17, 3) := by decide +kernel
theorem dX1_setStop_64 : decode cX1_setStop 64 = .ok (.aload_n 0, 1) := by decide +kernel
theorem dX1_setStop_65 : decode cX1_setStop 65 = .ok (.getfield 19, 3) := by decide +kernel
theorem dX1_setStop_68 : decode cX1_setStop 68 = .ok (.iload_n 1, 1) := by decide +kernel
theorem dX1_setStop_69 : decode cX1_setStop 69 = .ok (.iload_n 2, 1) := by decide +kernel
theorem dX1_setStop_70 : decode cX1_setStop 70 = .ok (.iastore, 1) := by decide +kernel
theorem dX1_setStop_71 : decode cX1_setStop 71 = .ok (.aload_n 0, 1) := by decide +kernel
theorem dX1_setStop_72 : decode cX1_setStop 72 = .ok (.getfield 22, 3) := by decide +kernel
theorem dX1_setStop_75 : decode cX1_setStop 75 = .ok (.iload_n 1, 1) := by decide +kernel
theorem dX1_setStop_76 : decode cX1_setStop 76 = .ok (.iload_n 3, 1) := by decide +kernel
theorem dX1_setStop_77 : decode cX1_setStop 77 = .ok (.iastore, 1) := by decide +kernel
theorem dX1_setStop_78 : decode cX1_setStop 78 = .ok (.return_, 1) := by decide +kernel
theorem dX1_isCoupled_0 : decode cX1_isCoupled 0 = .ok (.aload_n 0, 1) := by decide +kernel
theorem dX1_isCoupled_1 : decode cX1_isCoupled 1 = .ok (.getfield 25, 3) := by decide +kernel
theorem dX1_isCoupled_4 : decode cX1_isCoupled 4 = .ok (.iconst 3, 1) := by decide +kernel
theorem dX1_isCoupled_5 : decode cX1_isCoupled 5 = .ok (.iload_n 1, 1) := by decide +kernel
theorem dX1_isCoupled_6 : decode cX1_isCoupled 6 = .ok (.imul, 1) := by decide +kernel
theorem dX1_isCoupled_7 : decode cX1_isCoupled 7 = .ok (.iload_n 2, 1) := by decide +kernel
theorem dX1_isCoupled_8 : decode cX1_isCoupled 8 = .ok (.iadd, 1) := by decide +kernel
theorem dX1_isCoupled_9 : decode cX1_isCoupled 9 = .ok (.iaload, 1) := by decide +kernel
theorem dX1_isCoupled_10 : decode cX1_isCoupled 10 = .ok (.ifCond .le 7, 3) := by decide +kernel
theorem dX1_isCoupled_13 : decode cX1_isCoupled 13 = .ok (.iconst 1, 1) := by decide +kernel
theorem dX1_isCoupled_14 : decode cX1_isCoupled 14 = .ok (.goto 4, 3) := by decide +kernel
theorem dX1_isCoupled_17 : decode cX1_isCoupled 17 = .ok (.iconst 0, 1) := by decide +kernel
theorem dX1_isCoupled_18 : decode cX1_isCoupled 18 = .ok (.ireturn, 1) := by decide +kernel
set_option maxRecDepth 20000 in
theorem ggX1_comes_X1_isCoupled : GoodIn wsX1_comes wsX1_isCoupled := goodIn_r _ [5, 6, 7, 8, 9, 10, 11, 12, 13, 14, 15, 16, 17, 18, 19, 20, 21, 22] (by decide +kernel) (by decide +kernel)
set_option maxRecDepth 20000 in
theorem gX1_comes_X1_isCoupled : GoodIn wsX1_comes (wsV RX1 78 RX1 yX1_isCoupled wsX1_isCoupled) := goodIn_app (goodIn_of _ (by decide +kernel)) ggX1_comes_X1_isCoupled
theorem dX1_comes_0 : decode cX1_comes 0 = .ok (.iconst 3, 1) := by decide +kernel
theorem dX1_comes_1 : decode cX1_comes 1 = .ok (.iload_n 1, 1) := by decide +kernel
theorem dX1_comes_2 : decode cX1_comes 2 = .ok (.isub, 1) := by decide +kernel
theorem dX1_comes_3 : decode cX1_comes 3 = .ok (.iload_n 2, 1) := by decide +kernel
theorem dX1_comes_4 : decode cX1_comes 4 = .ok (.isub, 1) := by decide +kernel
theorem dX1_comes_5 : decode cX1_comes 5 = .ok (.istore_n 3, 1) := by decide +kernel
theorem dX1_comes_6 : decode cX1_comes 6 = .ok (.aload_n 0, 1) := by decide +kernel
theorem dX1_comes_7 : decode cX1_comes 7 = .ok (.iload_n 1, 1) := by decide +kernel
theorem dX1_comes_8 : decode cX1_comes 8 = .ok (.iload_n 2, 1) := by decide +kernel
theorem dX1_comes_9 : decode cX1_comes 9 = .ok (.invokevirtual 78, 3) := by decide +kernel
theorem dX1_comes_12 : decode cX1_comes 12 = .ok (.ifCond .ne 21, 3) := by decide +kernel
theorem dX1_comes_15 : decode cX1_comes 15 = .ok (.aload_n 0, 1) := by decide +kernel
theorem dX1_comes_16 : decode cX1_comes 16 = .ok (.iload_n 1, 1) := by decide +kernel
theorem dX1_comes_17 : decode cX1_comes 17 = .ok (.iload_n 3, 1) := by decide +kernel
theorem dX1_comes_18 : decode cX1_comes 18 = .ok (.invokevirtual 78, 3) := by decide +kernel
theorem dX1_comes_21 : decode cX1_comes 21 = .ok (.ifCond .eq 16, 3) := by decide +kernel
theorem dX1_comes_24 : decode cX1_comes 24 = .ok (.aload_n 0, 1) := by decide +kernel
theorem dX1_comes_25 : decode cX1_comes 25 = .ok (.iload_n 3, 1) := by decide +kernel
theorem dX1_comes_26 : decode cX1_comes 26 = .ok (.iload_n 2, 1) := by decide +kernel
theorem dX1_comes_27 : decode cX1_comes 27 = .ok (.invokevirtual 78, 3) := by decide +kernel
theorem dX1_comes_30 : decode cX1_comes 30 = .ok (.ifCond .eq 7, 3) := by decide +kernel
theorem dX1_comes_33 : decode cX1_comes 33 = .ok (.iconst 1, 1) := by decide +kernel
theorem dX1_comes_34 : decode cX1_comes 34 = .ok (.goto 4, 3) := by decide +kernel
theorem dX1_comes_37 : decode cX1_comes 37 = .ok (.iconst 0, 1) := by decide +kernel
theorem dX1_comes_38 : decode cX1_comes 38 = .ok (.ireturn, 1) := by decide +kernel
set_option maxRecDepth 20000 in
theorem ggX1_couple_X1_isManual : GoodIn wsX1_couple wsX1_isManual := goodIn_r _ [5, 6, 7, 4, 8] (by decide +kernel) (by decide +kernel)
set_option maxRecDepth 20000 in
theorem gX1_couple_X1_isManual : GoodIn wsX1_couple (va_wsS RX1 72 yX1_isManual wsX1_isManual) := goodIn_app (goodIn_of _ (by decide +kernel)) ggX1_couple_X1_isManual
set_option maxRecDepth 20000 in
theorem ggX1_couple_X1_comes : GoodIn wsX1_couple wsX1_comes := goodIn_r _ [12, 13, 14, 15, 4, 16, 1, 22, 23, 24, 25, 26, 27, 28, 29, 30, 31, 32, 33, 34, 35, 36, 37] (by decide +kernel) (by decide +kernel)
set_option maxRecDepth 20000 in
theorem gX1_couple_X1_comes : GoodIn wsX1_couple (wsV RX1 82 RX1 yX1_comes wsX1_comes) := goodIn_app (goodIn_of _ (by decide +kernel)) ggX1_couple_X1_comes
set_option maxRecDepth 20000 in
theorem ggX1_couple_X1_isFine : GoodIn wsX1_couple wsX1_isFine := goodIn_r _ [20, 21, 22, 23, 24, 25, 26, 27, 28, 29, 30, 31, 32, 33, 34, 35, 36, 37] (by decide +kernel) (by decide +kernel)
set_option maxRecDepth 20000 in
theorem gX1_couple_X1_isFine : GoodIn wsX1_couple (wsV RX1 69 RX1 yX1_isFine wsX1_isFine) := goodIn_app (goodIn_of _ (by decide +kernel)) ggX1_couple_X1_isFine
theorem dX1_couple_0 : decode cX1_couple 0 = .ok (.iload_n 1, 1) := by decide +kernel
theorem dX1_couple_1 : decode cX1_couple 1 = .ok (.invokestatic 72, 3) := by decide +kernel
theorem dX1_couple_4 : decode cX1_couple 4 = .ok (.ifCond .eq 35, 3) := by decide +kernel
theorem dX1_couple_7 : decode cX1_couple 7 = .ok (.iload_n 2, 1) := by decide +kernel
theorem dX1_couple_8 : decode cX1_couple 8 = .ok (.invokestatic 72, 3) := by decide +kernel
theorem dX1_couple_11 : decode cX1_couple 11 = .ok (.ifCond .eq 28, 3) := by decide +kernel
theorem dX1_couple_14 : decode cX1_couple 14 = .ok (.iload_n 1, 1) := by decide +kernel
theorem dX1_couple_15 : decode cX1_couple 15 = .ok (.iload_n 2, 1) := by decide +kernel
theorem dX1_couple_16 : decode cX1_couple 16 = .ok (.if_icmp .eq 23, 3) := by decide +kernel
theorem dX1_couple_19 : decode cX1_couple 19 = .ok (.iload_n 3, 1) := by decide +kernel
theorem dX1_couple_20 : decode cX1_couple 20 = .ok (.ifCond .eq 15, 3) := by decide +kernel
theorem dX1_couple_23 : decode cX1_couple 23 = .ok (.iload_n 3, 1) := by decide +kernel
theorem dX1_couple_24 : decode cX1_couple 24 = .ok (.bipush 12, 2) := by decide +kernel
theorem dX1_couple_26 : decode cX1_couple 26 = .ok (.if_icmp .eq 9, 3) := by decide +kernel
theorem dX1_couple_29 : decode cX1_couple 29 = .ok (.iload_n 3, 1) := by decide +kernel
theorem dX1_couple_30 : decode cX1_couple 30 = .ok (.bipush (-12), 2) := by decide +kernel
theorem dX1_couple_32 : decode cX1_couple 32 = .ok (.if_icmp .ne 7, 3) := by decide +kernel
theorem dX1_couple_35 : decode cX1_couple 35 = .ok (.iconst 1, 1) := by decide +kernel
theorem dX1_couple_36 : decode cX1_couple 36 = .ok (.goto 4, 3) := by decide +kernel
theorem dX1_couple_39 : decode cX1_couple 39 = .ok (.iconst 0, 1) := by decide +kernel
theorem dX1_couple_40 : decode cX1_couple 40 = .ok (.istore 4, 2) := by decide +kernel
theorem dX1_couple_42 : decode cX1_couple 42 = .ok (.aload_n 0, 1) := by decide +kernel
theorem dX1_couple_43 : decode cX1_couple 43 = .ok (.iload 4, 2) := by decide +kernel
theorem dX1_couple_45 : decode cX1_couple 45 = .ok (.ifCond .ne 7, 3) := by decide +kernel
theorem dX1_couple_48 : decode cX1_couple 48 = .ok (.iconst 1, 1) := by decide +kernel
theorem dX1_couple_49 : decode cX1_couple 49 = .ok (.goto 17, 3) := by decide +kernel
theorem dX1_couple_52 : decode cX1_couple 52 = .ok (.aload_n 0, 1) := by decide +kernel
theorem dX1_couple_53 : decode cX1_couple 53 = .ok (.iload_n 2, 1) := by decide +kernel
theorem dX1_couple_54 : decode cX1_couple 54 = .ok (.iload_n 1, 1) := by decide +kernel
theorem dX1_couple_55 : decode cX1_couple 55 = .ok (.invokevirtual 82, 3) := by decide +kernel
theorem dX1_couple_58 : decode cX1_couple 58 = .ok (.ifCond .eq 7, 3) := by decide +kernel
theorem dX1_couple_61 : decode cX1_couple 61 = .ok (.iconst 2, 1) := by decide +kernel
theorem dX1_couple_62 : decode cX1_couple 62 = .ok (.goto 4, 3) := by decide +kernel
theorem dX1_couple_65 : decode cX1_couple 65 = .ok (.iconst 0, 1) := by decide +kernel
theorem dX1_couple_66 : decode cX1_couple 66 = .ok (.invokevirtual 69, 3) := by decide +kernel
theorem dX1_couple_69 : decode cX1_couple 69 = .ok (.ifCond .ne 5, 3) := by decide +kernel
theorem dX1_couple_72 : decode cX1_couple 72 = .ok (.iconst 0, 1) := by decide +kernel
theorem dX1_couple_73 : decode cX1_couple 73 = .ok (.ireturn, 1) := by decide +kernel
theorem dX1_couple_74 : decode cX1_couple 74 = .ok (.aload_n 0, 1) := by decide +kernel
theorem dX1_couple_75 : decode cX1_couple 75 = .ok (.getfield 25, 3) := by decide +kernel
theorem dX1_couple_78 : decode cX1_couple 78 = .ok (.iconst 3, 1) := by decide +kernel
theorem dX1_couple_79 : decode cX1_couple 79 = .ok (.iload_n 1, 1) := by decide +kernel
theorem dX1_couple_80 : decode cX1_couple 80 = .ok (.imul, 1) := by decide +kernel
theorem dX1_couple_81 : decode cX1_couple 81 = .ok (.iload_n 2, 1) := by decide +kernel
theorem dX1_couple_82 : decode cX1_couple 82 = .ok (.iadd, 1) := by decide +kernel
theorem dX1_couple_83 : decode cX1_couple 83 = .ok (.iload_n 3, 1) := by decide +kernel
theorem dX1_couple_84 : decode cX1_couple 84 = .ok (.bipush 12, 2) := by decide +kernel
theorem dX1_couple_86 : decode cX1_couple 86 = .ok (.idiv, 1) := by decide +kernel
theorem dX1_couple_87 : decode cX1_couple 87 = .ok (.iconst 2, 1) := by decide +kernel
theorem dX1_couple_88 : decode cX1_couple 88 = .ok (.iadd, 1) := by decide +kernel
theorem dX1_couple_89 : decode cX1_couple 89 = .ok (.iastore, 1) := by decide +kernel
theorem dX1_couple_90 : decode cX1_couple 90 = .ok (.iconst 0, 1) := by decide +kernel
theorem dX1_couple_91 : decode cX1_couple 91 = .ok (.istore 5, 2) := by decide +kernel
theorem dX1_couple_93 : decode cX1_couple 93 = .ok (.iconst 0, 1) := by decide +kernel
theorem dX1_couple_94 : decode cX1_couple 94 = .ok (.istore 6, 2) := by decide +kernel
theorem dX1_couple_96 : decode cX1_couple 96 = .ok (.iload 6, 2) := by decide +kernel
theorem dX1_couple_98 : decode cX1_couple 98 = .ok (.bipush 9, 2) := by decide +kernel
theorem dX1_couple_100 : decode cX1_couple 100 = .ok (.if_icmp .ge 29, 3) := by decide +kernel
theorem dX1_couple_103 : decode cX1_couple 103 = .ok (.iload 5, 2) := by decide +kernel
theorem dX1_couple_105 : decode cX1_couple 105 = .ok (.aload_n 0, 1) := by decide +kernel
theorem dX1_couple_106 : decode cX1_couple 106 = .ok (.getfield 25, 3) := by decide +kernel
theorem dX1_couple_109 : decode cX1_couple 109 = .ok (.iload 6, 2) := by decide +kernel
theorem dX1_couple_111 : decode cX1_couple 111 = .ok (.iaload, 1) := by decide +kernel
theorem dX1_couple_112 : decode cX1_couple 112 = .ok (.ifCond .le 7, 3) := by decide +kernel
theorem dX1_couple_115 : decode cX1_couple 115 = .ok (.iconst 1, 1) := by decide +kernel
theorem dX1_couple_116 : decode cX1_couple 116 = .ok (.goto 4, 3) := by decide +kernel
theorem dX1_couple_119 : decode cX1_couple 119 = .ok (.iconst 0, 1) := by decide +kernel
theorem dX1_couple_120 : decode cX1_couple 120 = .ok (.iadd, 1) := by decide +kernel
theorem dX1_couple_121 : decode cX1_couple 121 = .ok (.istore 5, 2) := by decide +kernel
theorem dX1_couple_123 : decode cX1_couple 123 = .ok (.iinc 6 1, 3) := by decide +kernel
theorem dX1_couple_126 : decode cX1_couple 126 = .ok (.goto (-30), 3) := by decide +kernel
theorem dX1_couple_129 : decode cX1_couple 129 = .ok (.iload 5, 2) := by decide +kernel
theorem dX1_couple_131 : decode cX1_couple 131 = .ok (.ireturn, 1) := by decide +kernel
set_option maxRecDepth 20000 in
theorem ggX1_uncouple_X1_isManual : GoodIn wsX1_uncouple wsX1_isManual := goodIn_r _ [5, 6, 7, 4, 8] (by decide +kernel) (by decide +kernel)
set_option maxRecDepth 20000 in
theorem gX1_uncouple_X1_isManual : GoodIn wsX1_uncouple (va_wsS RX1 72 yX1_isManual wsX1_isManual) := goodIn_app (goodIn_of _ (by decide +kernel)) ggX1_uncouple_X1_isManual
set_option maxRecDepth 20000 in
theorem ggX1_uncouple_X1_isFine : GoodIn wsX1_uncouple wsX1_isFine := goodIn_r _ [12, 13, 18, 19, 20, 21, 22, 23, 24, 25, 26, 27, 28, 29, 30, 31, 32, 33] (by decide +kernel) (by decide +kernel)
set_option maxRecDepth 20000 in
theorem gX1_uncouple_X1_isFine : GoodIn wsX1_uncouple (wsV RX1 69 RX1 yX1_isFine wsX1_isFine) := goodIn_app (goodIn_of _ (by decide +kernel)) ggX1_uncouple_X1_isFine
set_option maxRecDepth 20000 in
theorem ggX1_uncouple_X1_isCoupled : GoodIn wsX1_uncouple wsX1_isCoupled := goodIn_r _ [17, 1, 18, 19, 20, 21, 22, 23, 24, 25, 26, 27, 28, 29, 30, 31, 32, 33] (by decide +kernel) (by decide +kernel)
set_option maxRecDepth 20000 in
theorem gX1_uncouple_X1_isCoupled : GoodIn wsX1_uncouple (wsV RX1 78 RX1 yX1_isCoupled wsX1_isCoupled) := goodIn_app (goodIn_of _ (by decide +kernel)) ggX1_uncouple_X1_isCoupled
theorem dX1_uncouple_0 : decode cX1_uncouple 0 = .ok (.aload_n 0, 1) := by decide +kernel
theorem dX1_uncouple_1 : decode cX1_uncouple 1 = .ok (.iload_n 1, 1) := by decide +kernel
theorem dX1_uncouple_2 : decode cX1_uncouple 2 = .ok (.invokestatic 72, 3) := by decide +kernel
theorem dX1_uncouple_5 : decode cX1_uncouple 5 = .ok (.ifCond .eq 14, 3) := by decide +kernel
theorem dX1_uncouple_8 : decode cX1_uncouple 8 = .ok (.iload_n 2, 1) := by decide +kernel
theorem dX1_uncouple_9 : decode cX1_uncouple 9 = .ok (.invokestatic 72, 3) := by decide +kernel
theorem dX1_uncouple_12 : decode cX1_uncouple 12 = .ok (.ifCond .eq 7, 3) := by decide +kernel
theorem dX1_uncouple_15 : decode cX1_uncouple 15 = .ok (.iconst 0, 1) := by decide +kernel
theorem dX1_uncouple_16 : decode cX1_uncouple 16 = .ok (.goto 4, 3) := by decide +kernel
theorem dX1_uncouple_19 : decode cX1_uncouple 19 = .ok (.iconst 1, 1) := by decide +kernel
theorem dX1_uncouple_20 : decode cX1_uncouple 20 = .ok (.invokevirtual 69, 3) := by decide +kernel
theorem dX1_uncouple_23 : decode cX1_uncouple 23 = .ok (.ifCond .ne 5, 3) := by decide +kernel
theorem dX1_uncouple_26 : decode cX1_uncouple 26 = .ok (.iconst 0, 1) := by decide +kernel
theorem dX1_uncouple_27 : decode cX1_uncouple 27 = .ok (.ireturn, 1) := by decide +kernel
theorem dX1_uncouple_28 : decode cX1_uncouple 28 = .ok (.aload_n 0, 1) := by decide +kernel
theorem dX1_uncouple_29 : decode cX1_uncouple 29 = .ok (.iload_n 1, 1) := by decide +kernel
theorem dX1_uncouple_30 : decode cX1_uncouple 30 = .ok (.iload_n 2, 1) := by decide +kernel
theorem dX1_uncouple_31 : decode cX1_uncouple 31 = .ok (.invokevirtual 78, 3) := by decide +kernel
theorem dX1_uncouple_34 : decode cX1_uncouple 34 = .ok (.istore_n 3, 1) := by decide +kernel
theorem dX1_uncouple_35 : decode cX1_uncouple 35 = .ok (.aload_n 0, 1) := by decide +kernel
theorem dX1_uncouple_36 : decode cX1_uncouple 36 = .ok (.getfield 25, 3) := by decide +kernel
theorem dX1_uncouple_39 : decode cX1_uncouple 39 = .ok (.iconst 3, 1) := by decide +kernel
theorem dX1_uncouple_40 : decode cX1_uncouple 40 = .ok (.iload_n 1, 1) := by decide +kernel
theorem dX1_uncouple_41 : decode cX1_uncouple 41 = .ok (.imul, 1) := by decide +kernel
theorem dX1_uncouple_42 : decode cX1_uncouple 42 = .ok (.iload_n 2, 1) := by decide +kernel
theorem dX1_uncouple_43 : decode cX1_uncouple 43 = .ok (.iadd, 1) := by decide +kernel
theorem dX1_uncouple_44 : decode cX1_uncouple 44 = .ok (.iconst 0, 1) := by decide +kernel
theorem dX1_uncouple_45 : decode cX1_uncouple 45 = .ok (.iastore, 1) := by decide +kernel
theorem dX1_uncouple_46 : decode cX1_uncouple 46 = .ok (.iload_n 3, 1) := by decide +kernel
theorem dX1_uncouple_47 : decode cX1_uncouple 47 = .ok (.ireturn, 1) := by decide +kernel
set_option maxRecDepth 20000 in
theorem ggX1_setSupply_X1_isIn : GoodIn wsX1_setSupply wsX1_isIn := goodIn_r _ [5] (by decide +kernel) (by decide +kernel)
set_option maxRecDepth 20000 in
theorem gX1_setSupply_X1_isIn : GoodIn wsX1_setSupply (va_wsS RX1 57 yX1_isIn wsX1_isIn) := goodIn_app (goodIn_of _ (by decide +kernel)) ggX1_setSupply_X1_isIn
set_option maxRecDepth 20000 in
theorem ggX1_setSupply_X1_isFine : GoodIn wsX1_setSupply wsX1_isFine := goodIn_r _ [9, 10, 11, 12, 13, 14, 15, 16, 17, 18, 19, 20, 21, 22, 23, 24, 25, 26] (by decide +kernel) (by decide +kernel)
set_option maxRecDepth 20000 in
theorem gX1_setSupply_X1_isFine : GoodIn wsX1_setSupply (wsV RX1 69 RX1 yX1_isFine wsX1_isFine) := goodIn_app (goodIn_of _ (by decide +kernel)) ggX1_setSupply_X1_isFine
theorem dX1_setSupply_0 : decode cX1_setSupply 0 = .ok (.aload_n 0, 1) := by decide +kernel
theorem dX1_setSupply_1 : decode cX1_setSupply 1 = .ok (.iload_n 1, 1) := by decide +kernel
theorem dX1_setSupply_2 : decode cX1_setSupply 2 = .ok (.bipush 10, 2) := by decide +kernel
theorem dX1_setSupply_4 : decode cX1_setSupply 4 = .ok (.sipush 1000, 3) := by decide +kernel
theorem dX1_setSupply_7 : decode cX1_setSupply 7 = .ok (.invokestatic 57, 3) := by decide +kernel
theorem dX1_setSupply_10 : decode cX1_setSupply 10 = .ok (.ifCond .eq 7, 3) := by decide +kernel
theorem dX1_setSupply_13 : decode cX1_setSupply 13 = .ok (.iconst 0, 1) := by decide +kernel
theorem dX1_setSupply_14 : decode cX1_setSupply 14 = .ok (.goto 4, 3) := by decide +kernel
theorem dX1_setSupply_17 : decode cX1_setSupply 17 = .ok (.iconst 1, 1) := by decide +kernel
theorem dX1_setSupply_18 : decode cX1_setSupply 18 = .ok (.invokevirtual 69, 3) := by decide +kernel
theorem dX1_setSupply_21 : decode cX1_setSupply 21 = .ok (.ifCond .ne 5, 3) := by decide +kernel
theorem dX1_setSupply_24 : decode cX1_setSupply 24 = .ok (.iconst 0, 1) := by decide +kernel
theorem dX1_setSupply_25 : decode cX1_setSupply 25 = .ok (.ireturn, 1) := by decide +kernel
theorem dX1_setSupply_26 : decode cX1_setSupply 26 = .ok (.aload_n 0, 1) := by decide +kernel
theorem dX1_setSupply_27 : decode cX1_setSupply 27 = .ok (.getfield 28, 3) := by decide +kernel
theorem dX1_setSupply_30 : decode cX1_setSupply 30 = .ok (.istore_n 2, 1) := by decide +kernel
theorem dX1_setSupply_31 : decode cX1_setSupply 31 = .ok (.aload_n 0, 1) := by decide +kernel
theorem dX1_setSupply_32 : decode cX1_setSupply 32 = .ok (.iload_n 1, 1) := by decide +kernel
theorem dX1_setSupply_33 : decode cX1_setSupply 33 = .ok (.putfield 28, 3) := by decide +kernel
theorem dX1_setSupply_36 : decode cX1_setSupply 36 = .ok (.iload_n 2, 1) := by decide +kernel
theorem dX1_setSupply_37 : decode cX1_setSupply 37 = .ok (.ireturn, 1) := by decide +kernel
set_option maxRecDepth 20000 in
theorem ggX1_setSag_X1_isIn : GoodIn wsX1_setSag wsX1_isIn := goodIn_r _ [5] (by decide +kernel) (by decide +kernel)
set_option maxRecDepth 20000 in
theorem gX1_setSag_X1_isIn : GoodIn wsX1_setSag (va_wsS RX1 57 yX1_isIn wsX1_isIn) := goodIn_app (goodIn_of _ (by decide +kernel)) ggX1_setSag_X1_isIn
set_option maxRecDepth 20000 in
theorem ggX1_setSag_X1_isFine : GoodIn wsX1_setSag wsX1_isFine := goodIn_r _ [9, 10, 11, 12, 13, 14, 15, 16, 17, 18, 19, 20, 21, 22, 23, 24, 25, 26] (by decide +kernel) (by decide +kernel)
set_option maxRecDepth 20000 in
theorem gX1_setSag_X1_isFine : GoodIn wsX1_setSag (wsV RX1 69 RX1 yX1_isFine wsX1_isFine) := goodIn_app (goodIn_of _ (by decide +kernel)) ggX1_setSag_X1_isFine
theorem dX1_setSag_0 : decode cX1_setSag 0 = .ok (.aload_n 0, 1) := by decide +kernel
theorem dX1_setSag_1 : decode cX1_setSag 1 = .ok (.iload_n 1, 1) := by decide +kernel
theorem dX1_setSag_2 : decode cX1_setSag 2 = .ok (.iconst 1, 1) := by decide +kernel
theorem dX1_setSag_3 : decode cX1_setSag 3 = .ok (.bipush 10, 2) := by decide +kernel
theorem dX1_setSag_5 : decode cX1_setSag 5 = .ok (.invokestatic 57, 3) := by decide +kernel
theorem dX1_setSag_8 : decode cX1_setSag 8 = .ok (.ifCond .eq 17, 3) := by decide +kernel
theorem dX1_setSag_11 : decode cX1_setSag 11 = .ok (.iload_n 2, 1) := by decide +kernel
theorem dX1_setSag_12 : decode cX1_setSag 12 = .ok (.iconst 0, 1) := by decide +kernel
theorem dX1_setSag_13 : decode cX1_setSag 13 = .ok (.bipush 100, 2) := by decide +kernel
theorem dX1_setSag_15 : decode cX1_setSag 15 = .ok (.invokestatic 57, 3) := by decide +kernel
theorem dX1_setSag_18 : decode cX1_setSag 18 = .ok (.ifCond .eq 7, 3) := by decide +kernel
theorem dX1_setSag_21 : decode cX1_setSag 21 = .ok (.iconst 0, 1) := by decide +kernel
theorem dX1_setSag_22 : decode cX1_setSag 22 = .ok (.goto 4, 3) := by decide +kernel
theorem dX1_setSag_25 : decode cX1_setSag 25 = .ok (.iconst 1, 1) := by decide +kernel
theorem dX1_setSag_26 : decode cX1_setSag 26 = .ok (.invokevirtual 69, 3) := by decide +kernel
theorem dX1_setSag_29 : decode cX1_setSag 29 = .ok (.ifCond .ne 5, 3) := by decide +kernel
theorem dX1_setSag_32 : decode cX1_setSag 32 = .ok (.iconst 0, 1) := by decide +kernel
theorem dX1_setSag_33 : decode cX1_setSag 33 = .ok (.ireturn, 1) := by decide +kernel
theorem dX1_setSag_34 : decode cX1_setSag 34 = .ok (.aload_n 0, 1) := by decide +kernel
theorem dX1_setSag_35 : decode cX1_setSag 35 = .ok (.getfield 32, 3) := by decide +kernel
theorem dX1_setSag_38 : decode cX1_setSag 38 = .ok (.iload_n 1, 1) := by decide +kernel
theorem dX1_setSag_39 : decode cX1_setSag 39 = .ok (.iaload, 1) := by decide +kernel
theorem dX1_setSag_40 : decode cX1_setSag 40 = .ok (.istore_n 3, 1) := by decide +kernel
theorem dX1_setSag_41 : decode cX1_setSag 41 = .ok (.aload_n 0, 1) := by decide +kernel
theorem dX1_setSag_42 : decode cX1_setSag 42 = .ok (.getfield 32, 3) := by decide +kernel
theorem dX1_setSag_45 : decode cX1_setSag 45 = .ok (.iload_n 1, 1) := by decide +kernel
theorem dX1_setSag_46 : decode cX1_setSag 46 = .ok (.iload_n 2, 1) := by decide +kernel
theorem dX1_setSag_47 : decode cX1_setSag 47 = .ok (.iastore, 1) := by decide +kernel
theorem dX1_setSag_48 : decode cX1_setSag 48 = .ok (.iload_n 3, 1) := by decide +kernel
theorem dX1_setSag_49 : decode cX1_setSag 49 = .ok (.ireturn, 1) := by decide +kernel
set_option maxRecDepth 20000 in
theorem ggX1_tune_X1_isIn : GoodIn wsX1_tune wsX1_isIn := goodIn_r _ [5] (by decide +kernel) (by decide +kernel)
set_option maxRecDepth 20000 in
theorem gX1_tune_X1_isIn : GoodIn wsX1_tune (va_wsS RX1 57 yX1_isIn wsX1_isIn) := goodIn_app (goodIn_of _ (by decide +kernel)) ggX1_tune_X1_isIn
set_option maxRecDepth 20000 in
theorem ggX1_tune_X1_isFine : GoodIn wsX1_tune wsX1_isFine := goodIn_r _ [9, 10, 11, 12, 13, 14, 15, 16, 17, 18, 19, 20, 21, 22, 23, 24, 25, 26] (by decide +kernel) (by decide +kernel)
set_option maxRecDepth 20000 in
theorem gX1_tune_X1_isFine : GoodIn wsX1_tune (wsV RX1 69 RX1 yX1_isFine wsX1_isFine) := goodIn_app (goodIn_of _ (by decide +kernel)) ggX1_tune_X1_isFine
theorem dX1_tune_0 : decode cX1_tune 0 = .ok (.aload_n 0, 1) := by decide +kernel
theorem dX1_tune_1 : decode cX1_tune 1 = .ok (.iload_n 1, 1) := by decide +kernel
theorem dX1_tune_2 : decode cX1_tune 2 = .ok (.iconst 0, 1) := by decide +kernel
theorem dX1_tune_3 : decode cX1_tune 3 = .ok (.bipush 11, 2) := by decide +kernel
theorem dX1_tune_5 : decode cX1_tune 5 = .ok (.invokestatic 57, 3) := by decide +kernel
theorem dX1_tune_8 : decode cX1_tune 8 = .ok (.ifCond .eq 18, 3) := by decide +kernel
theorem dX1_tune_11 : decode cX1_tune 11 = .ok (.iload_n 2, 1) := by decide +kernel
theorem dX1_tune_12 : decode cX1_tune 12 = .ok (.bipush (-50), 2) := by decide +kernel
theorem dX1_tune_14 : decode cX1_tune 14 = .ok (.bipush 50, 2) := by decide +kernel
theorem dX1_tune_16 : decode cX1_tune 16 = .ok (.invokestatic 57, 3) := by decide +kernel
theorem dX1_tune_19 : decode cX1_tune 19 = .ok (.ifCond .eq 7, 3) := by decide +kernel
theorem dX1_tune_22 : decode cX1_tune 22 = .ok (.iconst 0, 1) := by decide +kernel
theorem dX1_tune_23 : decode cX1_tune 23 = .ok (.goto 4, 3) := by decide +kernel
theorem dX1_tune_26 : decode cX1_tune 26 = .ok (.iconst 1, 1) := by decide +kernel
theorem dX1_tune_27 : decode cX1_tune 27 = .ok (.invokevirtual 69, 3) := by decide +kernel
theorem dX1_tune_30 : decode cX1_tune 30 = .ok (.ifCond .ne 5, 3) := by decide +kernel
theorem dX1_tune_33 : decode cX1_tune 33 = .ok (.iconst 0, 1) := by decide +kernel
theorem dX1_tune_34 : decode cX1_tune 34 = .ok (.ireturn, 1) := by decide +kernel
theorem dX1_tune_35 : decode cX1_tune 35 = .ok (.aload_n 0, 1) := by decide +kernel
theorem dX1_tune_36 : decode cX1_tune 36 = .ok (.getfield 35, 3) := by decide +kernel
theorem dX1_tune_39 : decode cX1_tune 39 = .ok (.iload_n 1, 1) := by decide +kernel
theorem dX1_tune_40 : decode cX1_tune 40 = .ok (.iaload, 1) := by decide +kernel
theorem dX1_tune_41 : decode cX1_tune 41 = .ok (.istore_n 3, 1) := by decide +kernel
theorem dX1_tune_42 : decode cX1_tune 42 = .ok (.aload_n 0, 1) := by decide +kernel
theorem dX1_tune_43 : decode cX1_tune 43 = .ok (.getfield 35, 3) := by decide +kernel
theorem dX1_tune_46 : decode cX1_tune 46 = .ok (.iload_n 1, 1) := by decide +kernel
theorem dX1_tune_47 : decode cX1_tune 47 = .ok (.iload_n 2, 1) := by decide +kernel
theorem dX1_tune_48 : decode cX1_tune 48 = .ok (.iastore, 1) := by decide +kernel
theorem dX1_tune_49 : decode cX1_tune 49 = .ok (.iload_n 3, 1) := by decide +kernel
theorem dX1_tune_50 : decode cX1_tune 50 = .ok (.ireturn, 1) := by decide +kernel
set_option maxRecDepth 20000 in
theorem ggX1_draw_X1_isIn : GoodIn wsX1_draw wsX1_isIn := goodIn_r _ [5] (by decide +kernel) (by decide +kernel)
set_option maxRecDepth 20000 in
theorem gX1_draw_X1_isIn : GoodIn wsX1_draw (va_wsS RX1 57 yX1_isIn wsX1_isIn) := goodIn_app (goodIn_of _ (by decide +kernel)) ggX1_draw_X1_isIn
set_option maxRecDepth 20000 in
theorem ggX1_draw_X1_isFine : GoodIn wsX1_draw wsX1_isFine := goodIn_r _ [9, 10, 14, 15, 16, 17, 18, 19, 20, 21, 22, 23, 24, 25, 26, 27, 28, 29] (by decide +kernel) (by decide +kernel)
set_option maxRecDepth 20000 in
theorem gX1_draw_X1_isFine : GoodIn wsX1_draw (wsV RX1 69 RX1 yX1_isFine wsX1_isFine) := goodIn_app (goodIn_of _ (by decide +kernel)) ggX1_draw_X1_isFine
set_option maxRecDepth 20000 in
theorem ggX1_draw_X1_has : GoodIn wsX1_draw wsX1_has := goodIn_r _ [13] (by decide +kernel) (by decide +kernel)
set_option maxRecDepth 20000 in
theorem gX1_draw_X1_has : GoodIn wsX1_draw (va_wsS RX1 61 yX1_has wsX1_has) := goodIn_app (goodIn_of _ (by decide +kernel)) ggX1_draw_X1_has
theorem dX1_draw_0 : decode cX1_draw 0 = .ok (.aload_n 0, 1) := by decide +kernel
theorem dX1_draw_1 : decode cX1_draw 1 = .ok (.iload_n 1, 1) := by decide +kernel
theorem dX1_draw_2 : decode cX1_draw 2 = .ok (.iconst 0, 1) := by decide +kernel
theorem dX1_draw_3 : decode cX1_draw 3 = .ok (.bipush 11, 2) := by decide +kernel
theorem dX1_draw_5 : decode cX1_draw 5 = .ok (.invokestatic 57, 3) := by decide +kernel
theorem dX1_draw_8 : decode cX1_draw 8 = .ok (.ifCond .eq 7, 3) := by decide +kernel
theorem dX1_draw_11 : decode cX1_draw 11 = .ok (.iconst 0, 1) := by decide +kernel
theorem dX1_draw_12 : decode cX1_draw 12 = .ok (.goto 4, 3) := by decide +kernel
theorem dX1_draw_15 : decode cX1_draw 15 = .ok (.iconst 1, 1) := by decide +kernel
theorem dX1_draw_16 : decode cX1_draw 16 = .ok (.invokevirtual 69, 3) := by decide +kernel
theorem dX1_draw_19 : decode cX1_draw 19 = .ok (.ifCond .ne 5, 3) := by decide +kernel
theorem dX1_draw_22 : decode cX1_draw 22 = .ok (.iconst 0, 1) := by decide +kernel
theorem dX1_draw_23 : decode cX1_draw 23 = .ok (.ireturn, 1) := by decide +kernel
theorem dX1_draw_24 : decode cX1_draw 24 = .ok (.aload_n 0, 1) := by decide +kernel
theorem dX1_draw_25 : decode cX1_draw 25 = .ok (.getfield 75, 3) := by decide +kernel
theorem dX1_draw_28 : decode cX1_draw 28 = .ok (.i2l, 1) := by decide +kernel
theorem dX1_draw_29 : decode cX1_draw 29 = .ok (.iload_n 1, 1) := by decide +kernel
theorem dX1_draw_30 : decode cX1_draw 30 = .ok (.invokestatic 61, 3) := by decide +kernel
theorem dX1_draw_33 : decode cX1_draw 33 = .ok (.istore_n 3, 1) := by decide +kernel
theorem dX1_draw_34 : decode cX1_draw 34 = .ok (.aload_n 0, 1) := by decide +kernel
theorem dX1_draw_35 : decode cX1_draw 35 = .ok (.iload_n 2, 1) := by decide +kernel
theorem dX1_draw_36 : decode cX1_draw 36 = .ok (.ifCond .eq 14, 3) := by decide +kernel
theorem dX1_draw_39 : decode cX1_draw 39 = .ok (.aload_n 0, 1) := by decide +kernel
theorem dX1_draw_40 : decode cX1_draw 40 = .ok (.getfield 75, 3) := by decide +kernel
theorem dX1_draw_43 : decode cX1_draw 43 = .ok (.iconst 1, 1) := by decide +kernel
theorem dX1_draw_44 : decode cX1_draw 44 = .ok (.iload_n 1, 1) := by decide +kernel
theorem dX1_draw_45 : decode cX1_draw 45 = .ok (.ishl, 1) := by decide +kernel
theorem dX1_draw_46 : decode cX1_draw 46 = .ok (.ior, 1) := by decide +kernel
theorem dX1_draw_47 : decode cX1_draw 47 = .ok (.goto 13, 3) := by decide +kernel
theorem dX1_draw_50 : decode cX1_draw 50 = .ok (.aload_n 0, 1) := by decide +kernel
theorem dX1_draw_51 : decode cX1_draw 51 = .ok (.getfield 75, 3) := by decide +kernel
theorem dX1_draw_54 : decode cX1_draw 54 = .ok (.iconst 1, 1) := by decide +kernel
theorem dX1_draw_55 : decode cX1_draw 55 = .ok (.iload_n 1, 1) := by decide +kernel
theorem dX1_draw_56 : decode cX1_draw 56 = .ok (.ishl, 1) := by decide +kernel
theorem dX1_draw_57 : decode cX1_draw 57 = .ok (.iconst (-1), 1) := by decide +kernel
theorem dX1_draw_58 : decode cX1_draw 58 = .ok (.ixor, 1) := by decide +kernel
theorem dX1_draw_59 : decode cX1_draw 59 = .ok (.iand, 1) := by decide +kernel
theorem dX1_draw_60 : decode cX1_draw 60 = .ok (.putfield 75, 3) := by decide +kernel
theorem dX1_draw_63 : decode cX1_draw 63 = .ok (.iload_n 3, 1) := by decide +kernel
theorem dX1_draw_64 : decode cX1_draw 64 = .ok (.ireturn, 1) := by decide +kernel
set_option maxRecDepth 20000 in
theorem ggX1_isRegistration_X1_isIn : GoodIn wsX1_isRegistration wsX1_isIn := goodIn_r _ [4] (by decide +kernel) (by decide +kernel)
set_option maxRecDepth 20000 in
theorem gX1_isRegistration_X1_isIn : GoodIn wsX1_isRegistration (va_wsS RX1 57 yX1_isIn wsX1_isIn) := goodIn_app (goodIn_of _ (by decide +kernel)) ggX1_isRegistration_X1_isIn
theorem dX1_isRegistration_0 : decode cX1_isRegistration 0 = .ok (.iload_n 0, 1) := by decide +kernel
theorem dX1_isRegistration_1 : decode cX1_isRegistration 1 = .ok (.iconst 0, 1) := by decide +kernel
theorem dX1_isRegistration_2 : decode cX1_isRegistration 2 = .ok (.bipush 7, 2) := by decide +kernel
theorem dX1_isRegistration_4 : decode cX1_isRegistration 4 = .ok (.invokestatic 57, 3) := by decide +kernel
theorem dX1_isRegistration_7 : decode cX1_isRegistration 7 = .ok (.ireturn, 1) := by decide +kernel
set_option maxRecDepth 20000 in
theorem ggX1_keep_X1_isRegistration : GoodIn wsX1_keep wsX1_isRegistration := goodIn_r _ [6, 7, 8, 5, 9] (by decide +kernel) (by decide +kernel)
set_option maxRecDepth 20000 in
theorem gX1_keep_X1_isRegistration : GoodIn wsX1_keep (va_wsS RX1 85 yX1_isRegistration wsX1_isRegistration) := goodIn_app (goodIn_of _ (by decide +kernel)) ggX1_keep_X1_isRegistration
set_option maxRecDepth 20000 in
theorem ggX1_keep_X1_isFine : GoodIn wsX1_keep wsX1_isFine := goodIn_r _ [13, 14, 21, 22, 23, 24, 25, 26, 27, 28, 29, 30, 31, 32, 33, 34, 35, 36] (by decide +kernel) (by decide +kernel)
set_option maxRecDepth 20000 in
theorem gX1_keep_X1_isFine : GoodIn wsX1_keep (wsV RX1 69 RX1 yX1_isFine wsX1_isFine) := goodIn_app (goodIn_of _ (by decide +kernel)) ggX1_keep_X1_isFine
set_option maxRecDepth 20000 in
theorem ggX1_keep_X1_count : GoodIn wsX1_keep wsX1_count := goodIn_r _ [17, 18, 19, 5, 20] (by decide +kernel) (by decide +kernel)
set_option maxRecDepth 20000 in
theorem gX1_keep_X1_count : GoodIn wsX1_keep (va_wsS RX1 88 yX1_count wsX1_count) := goodIn_app (goodIn_of _ (by decide +kernel)) ggX1_keep_X1_count
theorem dX1_keep_0 : decode cX1_keep 0 = .ok (.aload_n 0, 1) := by decide +kernel
theorem dX1_keep_1 : decode cX1_keep 1 = .ok (.iload_n 1, 1) := by decide +kernel
theorem dX1_keep_2 : decode cX1_keep 2 = .ok (.invokestatic 85, 3) := by decide +kernel
theorem dX1_keep_5 : decode cX1_keep 5 = .ok (.ifCond .eq 7, 3) := by decide +kernel
theorem dX1_keep_8 : decode cX1_keep 8 = .ok (.iconst 0, 1) := by decide +kernel
theorem dX1_keep_9 : decode cX1_keep 9 = .ok (.goto 4, 3) := by decide +kernel
theorem dX1_keep_12 : decode cX1_keep 12 = .ok (.iconst 1, 1) := by decide +kernel
theorem dX1_keep_13 : decode cX1_keep 13 = .ok (.invokevirtual 69, 3) := by decide +kernel
theorem dX1_keep_16 : decode cX1_keep 16 = .ok (.ifCond .ne 5, 3) := by decide +kernel
theorem dX1_keep_19 : decode cX1_keep 19 = .ok (.iconst 0, 1) := by decide +kernel
theorem dX1_keep_20 : decode cX1_keep 20 = .ok (.ireturn, 1) := by decide +kernel
theorem dX1_keep_21 : decode cX1_keep 21 = .ok (.aload_n 0, 1) := by decide +kernel
theorem dX1_keep_22 : decode cX1_keep 22 = .ok (.getfield 38, 3) := by decide +kernel
theorem dX1_keep_25 : decode cX1_keep 25 = .ok (.iload_n 1, 1) := by decide +kernel
theorem dX1_keep_26 : decode cX1_keep 26 = .ok (.aload_n 0, 1) := by decide +kernel
theorem dX1_keep_27 : decode cX1_keep 27 = .ok (.getfield 75, 3) := by decide +kernel
theorem dX1_keep_30 : decode cX1_keep 30 = .ok (.iastore, 1) := by decide +kernel
theorem dX1_keep_31 : decode cX1_keep 31 = .ok (.aload_n 0, 1) := by decide +kernel
theorem dX1_keep_32 : decode cX1_keep 32 = .ok (.getfield 75, 3) := by decide +kernel
theorem dX1_keep_35 : decode cX1_keep 35 = .ok (.i2l, 1) := by decide +kernel
theorem dX1_keep_36 : decode cX1_keep 36 = .ok (.invokestatic 88, 3) := by decide +kernel
theorem dX1_keep_39 : decode cX1_keep 39 = .ok (.ireturn, 1) := by decide +kernel
set_option maxRecDepth 20000 in
theorem ggX1_recall_X1_isRegistration : GoodIn wsX1_recall wsX1_isRegistration := goodIn_r _ [6, 7, 8, 5, 9] (by decide +kernel) (by decide +kernel)
set_option maxRecDepth 20000 in
theorem gX1_recall_X1_isRegistration : GoodIn wsX1_recall (va_wsS RX1 85 yX1_isRegistration wsX1_isRegistration) := goodIn_app (goodIn_of _ (by decide +kernel)) ggX1_recall_X1_isRegistration
set_option maxRecDepth 20000 in
theorem ggX1_recall_X1_isFine : GoodIn wsX1_recall wsX1_isFine := goodIn_r _ [13, 14, 21, 22, 23, 24, 25, 26, 27, 28, 29, 30, 31, 32, 33, 34, 35, 36] (by decide +kernel) (by decide +kernel)
set_option maxRecDepth 20000 in
theorem gX1_recall_X1_isFine : GoodIn wsX1_recall (wsV RX1 69 RX1 yX1_isFine wsX1_isFine) := goodIn_app (goodIn_of _ (by decide +kernel)) ggX1_recall_X1_isFine
set_option maxRecDepth 20000 in
theorem ggX1_recall_X1_count : GoodIn wsX1_recall wsX1_count := goodIn_r _ [17, 18, 19, 5, 20] (by decide +kernel) (by decide +kernel)
set_option maxRecDepth 20000 in
theorem gX1_recall_X1_count : GoodIn wsX1_recall (va_wsS RX1 88 yX1_count wsX1_count) := goodIn_app (goodIn_of _ (by decide +kernel)) ggX1_recall_X1_count
theorem dX1_recall_0 : decode cX1_recall 0 = .ok (.aload_n 0, 1) := by decide +kernel
theorem dX1_recall_1 : decode cX1_recall 1 = .ok (.iload_n 1, 1) := by decide +kernel
theorem dX1_recall_2 : decode cX1_recall 2 = .ok (.invokestatic 85, 3) := by decide +kernel
theorem dX1_recall_5 : decode cX1_recall 5 = .ok (.ifCond .eq 7, 3) := by decide +kernel
theorem dX1_recall_8 : decode cX1_recall 8 = .ok (.iconst 0, 1) := by decide +kernel
theorem dX1_recall_9 : decode cX1_recall 9 = .ok (.goto 4, 3) := by decide +kernel
theorem dX1_recall_12 : decode cX1_recall 12 = .ok (.iconst 1, 1) := by decide +kernel
theorem dX1_recall_13 : decode cX1_recall 13 = .ok (.invokevirtual 69, 3) := by decide +kernel
theorem dX1_recall_16 : decode cX1_recall 16 = .ok (.ifCond .ne 5, 3) := by decide +kernel
theorem dX1_recall_19 : decode cX1_recall 19 = .ok (.iconst 0, 1) := by decide +kernel
theorem dX1_recall_20 : decode cX1_recall 20 = .ok (.ireturn, 1) := by decide +kernel
theorem dX1_recall_21 : decode cX1_recall 21 = .ok (.aload_n 0, 1) := by decide +kernel
theorem dX1_recall_22 : decode cX1_recall 22 = .ok (.getfield 75, 3) := by decide +kernel
theorem dX1_recall_25 : decode cX1_recall 25 = .ok (.aload_n 0, 1) := by decide +kernel
theorem dX1_recall_26 : decode cX1_recall 26 = .ok (.getfield 38, 3) := by decide +kernel
theorem dX1_recall_29 : decode cX1_recall 29 = .ok (.iload_n 1, 1) := by decide +kernel
theorem dX1_recall_30 : decode cX1_recall 30 = .ok (.iaload, 1) := by decide +kernel
theorem dX1_recall_31 : decode cX1_recall 31 = .ok (.ixor, 1) := by decide +kernel
theorem dX1_recall_32 : decode cX1_recall 32 = .ok (.i2l, 1) := by decide +kernel
theorem dX1_recall_33 : decode cX1_recall 33 = .ok (.invokestatic 88, 3) := by decide +kernel
theorem dX1_recall_36 : decode cX1_recall 36 = .ok (.istore_n 2, 1) := by decide +kernel
theorem dX1_recall_37 : decode cX1_recall 37 = .ok (.aload_n 0, 1) := by decide +kernel
theorem dX1_recall_38 : decode cX1_recall 38 = .ok (.aload_n 0, 1) := by decide +kernel
theorem dX1_recall_39 : decode cX1_recall 39 = .ok (.getfield 38, 3) := by decide +kernel
theorem dX1_recall_42 : decode cX1_recall 42 = .ok (.iload_n 1, 1) := by decide +kernel
theorem dX1_recall_43 : decode cX1_recall 43 = .ok (.iaload, 1) := by decide +kernel
theorem dX1_recall_44 : decode cX1_recall 44 = .ok (.putfield 75, 3) := by decide +kernel
theorem dX1_recall_47 : decode cX1_recall 47 = .ok (.iload_n 2, 1) := by decide +kernel
theorem dX1_recall_48 : decode cX1_recall 48 = .ok (.ireturn, 1) := by decide +kernel
set_option maxRecDepth 20000 in
theorem ggX1_hold_X1_isManual : GoodIn wsX1_hold wsX1_isManual := goodIn_r _ [6, 7, 8, 5, 9] (by decide +kernel) (by decide +kernel)
set_option maxRecDepth 20000 in
theorem gX1_hold_X1_isManual : GoodIn wsX1_hold (va_wsS RX1 72 yX1_isManual wsX1_isManual) := goodIn_app (goodIn_of _ (by decide +kernel)) ggX1_hold_X1_isManual
set_option maxRecDepth 20000 in
theorem ggX1_hold_X1_isKey : GoodIn wsX1_hold wsX1_isKey := goodIn_r _ [12, 7, 8, 5, 9] (by decide +kernel) (by decide +kernel)
set_option maxRecDepth 20000 in
theorem gX1_hold_X1_isKey : GoodIn wsX1_hold (va_wsS RX1 92 yX1_isKey wsX1_isKey) := goodIn_app (goodIn_of _ (by decide +kernel)) ggX1_hold_X1_isKey
set_option maxRecDepth 20000 in
theorem ggX1_hold_X1_isFine : GoodIn wsX1_hold wsX1_isFine := goodIn_r _ [16, 17, 21, 22, 23, 24, 25, 26, 27, 28, 29, 30, 31, 32, 33, 34, 35, 36] (by decide +kernel) (by decide +kernel)
set_option maxRecDepth 20000 in
theorem gX1_hold_X1_isFine : GoodIn wsX1_hold (wsV RX1 69 RX1 yX1_isFine wsX1_isFine) := goodIn_app (goodIn_of _ (by decide +kernel)) ggX1_hold_X1_isFine
set_option maxRecDepth 20000 in
theorem ggX1_hold_X1_has : GoodIn wsX1_hold wsX1_has := goodIn_r _ [20] (by decide +kernel) (by decide +kernel)
set_option maxRecDepth 20000 in
theorem gX1_hold_X1_has : GoodIn wsX1_hold (va_wsS RX1 61 yX1_has wsX1_has) := goodIn_app (goodIn_of _ (by decide +kernel)) ggX1_hold_X1_has
theorem dX1_hold_0 : decode cX1_hold 0 = .ok (.aload_n 0, 1) := by decide +kernel
theorem dX1_hold_1 : decode cX1_hold 1 = .ok (.iload_n 1, 1) := by decide +kernel
theorem dX1_hold_2 : decode cX1_hold 2 = .ok (.invokestatic 72, 3) := by decide +kernel
theorem dX1_hold_5 : decode cX1_hold 5 = .ok (.ifCond .eq 14, 3) := by decide +kernel
theorem dX1_hold_8 : decode cX1_hold 8 = .ok (.iload_n 2, 1) := by decide +kernel
theorem dX1_hold_9 : decode cX1_hold 9 = .ok (.invokestatic 92, 3) := by decide +kernel
theorem dX1_hold_12 : decode cX1_hold 12 = .ok (.ifCond .eq 7, 3) := by decide +kernel
theorem dX1_hold_15 : decode cX1_hold 15 = .ok (.iconst 0, 1) := by decide +kernel
theorem dX1_hold_16 : decode cX1_hold 16 = .ok (.goto 4, 3) := by decide +kernel
theorem dX1_hold_19 : decode cX1_hold 19 = .ok (.iconst 1, 1) := by decide +kernel
theorem dX1_hold_20 : decode cX1_hold 20 = .ok (.invokevirtual 69, 3) := by decide +kernel
theorem dX1_hold_23 : decode cX1_hold 23 = .ok (.ifCond .ne 5, 3) := by decide +kernel
theorem dX1_hold_26 : decode cX1_hold 26 = .ok (.iconst 0, 1) := by decide +kernel
theorem dX1_hold_27 : decode cX1_hold 27 = .ok (.ireturn, 1) := by decide +kernel
theorem dX1_hold_28 : decode cX1_hold 28 = .ok (.aload_n 0, 1) := by decide +kernel
theorem dX1_hold_29 : decode cX1_hold 29 = .ok (.getfield 41, 3) := by decide +kernel
theorem dX1_hold_32 : decode cX1_hold 32 = .ok (.iload_n 1, 1) := by decide +kernel
theorem dX1_hold_33 : decode cX1_hold 33 = .ok (.laload, 1) := by decide +kernel
theorem dX1_hold_34 : decode cX1_hold 34 = .ok (.iload_n 2, 1) := by decide +kernel
theorem dX1_hold_35 : decode cX1_hold 35 = .ok (.invokestatic 61, 3) := by decide +kernel
theorem dX1_hold_38 : decode cX1_hold 38 = .ok (.istore 4, 2) := by decide +kernel
theorem dX1_hold_40 : decode cX1_hold 40 = .ok (.aload_n 0, 1) := by decide +kernel
theorem dX1_hold_41 : decode cX1_hold 41 = .ok (.getfield 41, 3) := by decide +kernel
theorem dX1_hold_44 : decode cX1_hold 44 = .ok (.iload_n 1, 1) := by decide +kernel
theorem dX1_hold_45 : decode cX1_hold 45 = .ok (.iload_n 3, 1) := by decide +kernel
theorem dX1_hold_46 : decode cX1_hold 46 = .ok (.ifCond .eq 16, 3) := by decide +kernel
theorem dX1_hold_49 : decode cX1_hold 49 = .ok (.aload_n 0, 1) := by decide +kernel
theorem dX1_hold_50 : decode cX1_hold 50 = .ok (.getfield 41, 3) := by decide +kernel
theorem dX1_hold_53 : decode cX1_hold 53 = .ok (.iload_n 1, 1) := by decide +kernel
theorem dX1_hold_54 : decode cX1_hold 54 = .ok (.laload, 1) := by decide +kernel
theorem dX1_hold_55 : decode cX1_hold 55 = .ok (.lconst 1, 1) := by decide +kernel
theorem dX1_hold_56 : decode cX1_hold 56 = .ok (.iload_n 2, 1) := by decide +kernel
theorem dX1_hold_57 : decode cX1_hold 57 = .ok (.lshl, 1) := by decide +kernel
theorem dX1_hold_58 : decode cX1_hold 58 = .ok (.lor, 1) := by decide +kernel
theorem dX1_hold_59 : decode cX1_hold 59 = .ok (.goto 17, 3) := by decide +kernel
theorem dX1_hold_62 : decode cX1_hold 62 = .ok (.aload_n 0, 1) := by decide +kernel
theorem dX1_hold_63 : decode cX1_hold 63 = .ok (.getfield 41, 3) := by decide +kernel
theorem dX1_hold_66 : decode cX1_hold 66 = .ok (.iload_n 1, 1) := by decide +kernel
theorem dX1_hold_67 : decode cX1_hold 67 = .ok (.laload, 1) := by decide +kernel
theorem dX1_hold_68 : decode cX1_hold 68 = .ok (.lconst 1, 1) := by decide +kernel
theorem dX1_hold_69 : decode cX1_hold 69 = .ok (.iload_n 2, 1) := by decide +kernel
theorem dX1_hold_70 : decode cX1_hold 70 = .ok (.lshl, 1) := by decide +kernel
theorem dX1_hold_71 : decode cX1_hold 71 = .ok (.ldc2_w 95, 3) := by decide +kernel
theorem dX1_hold_74 : decode cX1_hold 74 = .ok (.lxor, 1) := by decide +kernel
theorem dX1_hold_75 : decode cX1_hold 75 = .ok (.land, 1) := by decide +kernel
theorem dX1_hold_76 : decode cX1_hold 76 = .ok (.lastore, 1) := by decide +kernel
theorem dX1_hold_77 : decode cX1_hold 77 = .ok (.iload 4, 2) := by decide +kernel
theorem dX1_hold_79 : decode cX1_hold 79 = .ok (.ireturn, 1) := by decide +kernel
set_option maxRecDepth 20000 in
theorem ggX1_letGo_X1_count : GoodIn wsX1_letGo wsX1_count := goodIn_r _ [6, 7, 8, 5, 9] (by decide +kernel) (by decide +kernel)
set_option maxRecDepth 20000 in
theorem gX1_letGo_X1_count : GoodIn wsX1_letGo (va_wsS RX1 88 yX1_count wsX1_count) := goodIn_app (goodIn_of _ (by decide +kernel)) ggX1_letGo_X1_count
theorem dX1_letGo_0 : decode cX1_letGo 0 = .ok (.aload_n 0, 1) := by decide +kernel
theorem dX1_letGo_1 : decode cX1_letGo 1 = .ok (.iconst 0, 1) := by decide +kernel
theorem dX1_letGo_2 : decode cX1_letGo 2 = .ok (.putfield 54, 3) := by decide +kernel
theorem dX1_letGo_5 : decode cX1_letGo 5 = .ok (.iconst 0, 1) := by decide +kernel
theorem dX1_letGo_6 : decode cX1_letGo 6 = .ok (.istore_n 1, 1) := by decide +kernel
theorem dX1_letGo_7 : decode cX1_letGo 7 = .ok (.iconst 0, 1) := by decide +kernel
theorem dX1_letGo_8 : decode cX1_letGo 8 = .ok (.istore_n 2, 1) := by decide +kernel
theorem dX1_letGo_9 : decode cX1_letGo 9 = .ok (.iload_n 2, 1) := by decide +kernel
theorem dX1_letGo_10 : decode cX1_letGo 10 = .ok (.iconst 3, 1) := by decide +kernel
theorem dX1_letGo_11 : decode cX1_letGo 11 = .ok (.if_icmp .ge 28, 3) := by decide +kernel
theorem dX1_letGo_14 : decode cX1_letGo 14 = .ok (.iload_n 1, 1) := by decide +kernel
theorem dX1_letGo_15 : decode cX1_letGo 15 = .ok (.aload_n 0, 1) := by decide +kernel
theorem dX1_letGo_16 : decode cX1_letGo 16 = .ok (.getfield 41, 3) := by decide +kernel
theorem dX1_letGo_19 : decode cX1_letGo 19 = .ok (.iload_n 2, 1) := by decide +kernel
theorem dX1_letGo_20 : decode cX1_letGo 20 = .ok (.laload, 1) := by decide +kernel
theorem dX1_letGo_21 : decode cX1_letGo 21 = .ok (.invokestatic 88, 3) := by decide +kernel
theorem dX1_letGo_24 : decode cX1_letGo 24 = .ok (.iadd, 1) := by decide +kernel
theorem dX1_letGo_25 : decode cX1_letGo 25 = .ok (.istore_n 1, 1) := by decide +kernel
theorem dX1_letGo_26 : decode cX1_letGo 26 = .ok (.aload_n 0, 1) := by decide +kernel
theorem dX1_letGo_27 : decode cX1_letGo 27 = .ok (.getfield 41, 3) := by decide +kernel
theorem dX1_letGo_30 : decode cX1_letGo 30 = .ok (.iload_n 2, 1) := by decide +kernel
theorem dX1_letGo_31 : decode cX1_letGo 31 = .ok (.lconst 0, 1) := by decide +kernel
theorem dX1_letGo_32 : decode cX1_letGo 32 = .ok (.lastore, 1) := by decide +kernel
theorem dX1_letGo_33 : decode cX1_letGo 33 = .ok (.iinc 2 1, 3) := by decide +kernel
theorem dX1_letGo_36 : decode cX1_letGo 36 = .ok (.goto (-27), 3) := by decide +kernel
theorem dX1_letGo_39 : decode cX1_letGo 39 = .ok (.iload_n 1, 1) := by decide +kernel
theorem dX1_letGo_40 : decode cX1_letGo 40 = .ok (.ireturn, 1) := by decide +kernel
theorem dX1_couples_0 : decode cX1_couples 0 = .ok (.iconst 0, 1) := by decide +kernel
theorem dX1_couples_1 : decode cX1_couples 1 = .ok (.istore_n 1, 1) := by decide +kernel
theorem dX1_couples_2 : decode cX1_couples 2 = .ok (.iload_n 1, 1) := by decide +kernel
theorem dX1_couples_3 : decode cX1_couples 3 = .ok (.iconst 3, 1) := by decide +kernel
theorem dX1_couples_4 : decode cX1_couples 4 = .ok (.if_icmp .ge 21, 3) := by decide +kernel
theorem dX1_couples_7 : decode cX1_couples 7 = .ok (.aload_n 0, 1) := by decide +kernel
theorem dX1_couples_8 : decode cX1_couples 8 = .ok (.getfield 48, 3) := by decide +kernel
theorem dX1_couples_11 : decode cX1_couples 11 = .ok (.iload_n 1, 1) := by decide +kernel
theorem dX1_couples_12 : decode cX1_couples 12 = .ok (.aload_n 0, 1) := by decide +kernel
theorem dX1_couples_13 : decode cX1_couples 13 = .ok (.getfield 41, 3) := by decide +kernel
theorem dX1_couples_16 : decode cX1_couples 16 = .ok (.iload_n 1, 1) := by decide +kernel
theorem dX1_couples_17 : decode cX1_couples 17 = .ok (.laload, 1) := by decide +kernel
theorem dX1_couples_18 : decode cX1_couples 18 = .ok (.lastore, 1) := by decide +kernel
theorem dX1_couples_19 : decode cX1_couples 19 = .ok (.iinc 1 1, 3) := by decide +kernel
theorem dX1_couples_22 : decode cX1_couples 22 = .ok (.goto (-20), 3) := by decide +kernel
theorem dX1_couples_25 : decode cX1_couples 25 = .ok (.iconst 0, 1) := by decide +kernel
theorem dX1_couples_26 : decode cX1_couples 26 = .ok (.istore_n 1, 1) := by decide +kernel
theorem dX1_couples_27 : decode cX1_couples 27 = .ok (.iload_n 1, 1) := by decide +kernel
theorem dX1_couples_28 : decode cX1_couples 28 = .ok (.iconst 3, 1) := by decide +kernel
theorem dX1_couples_29 : decode cX1_couples 29 = .ok (.if_icmp .ge 97, 3) := by decide +kernel
theorem dX1_couples_32 : decode cX1_couples 32 = .ok (.iconst 0, 1) := by decide +kernel
theorem dX1_couples_33 : decode cX1_couples 33 = .ok (.istore_n 2, 1) := by decide +kernel
theorem dX1_couples_34 : decode cX1_couples 34 = .ok (.iload_n 2, 1) := by decide +kernel
theorem dX1_couples_35 : decode cX1_couples 35 = .ok (.bipush 9, 2) := by decide +kernel
theorem dX1_couples_37 : decode cX1_couples 37 = .ok (.if_icmp .ge 83, 3) := by decide +kernel
theorem dX1_couples_40 : decode cX1_couples 40 = .ok (.aload_n 0, 1) := by decide +kernel
theorem dX1_couples_41 : decode cX1_couples 41 = .ok (.getfield 48, 3) := by decide +kernel
theorem dX1_couples_44 : decode cX1_couples 44 = .ok (.iload_n 2, 1) := by decide +kernel
theorem dX1_couples_45 : decode cX1_couples 45 = .ok (.iconst 3, 1) := by decide +kernel
theorem dX1_couples_46 : decode cX1_couples 46 = .ok (.idiv, 1) := by decide +kernel
theorem dX1_couples_47 : decode cX1_couples 47 = .ok (.laload, 1) := by decide +kernel
theorem dX1_couples_48 : decode cX1_couples 48 = .ok (.lstore_n 3, 1) := by decide +kernel
theorem dX1_couples_49 : decode cX1_couples 49 = .ok (.aload_n 0, 1) := by decide +kernel
theorem dX1_couples_50 : decode cX1_couples 50 = .ok (.getfield 25, 3) := by decide +kernel
theorem dX1_couples_53 : decode cX1_couples 53 = .ok (.iload_n 2, 1) := by decide +kernel
theorem dX1_couples_54 : decode cX1_couples 54 = .ok (.iaload, 1) := by decide +kernel
theorem dX1_couples_55 : decode cX1_couples 55 = .ok (.iconst 1, 1) := by decide +kernel
theorem dX1_couples_56 : decode cX1_couples 56 = .ok (.if_icmp .ne 10, 3) := by decide +kernel
theorem dX1_couples_59 : decode cX1_couples 59 = .ok (.lload_n 3, 1) := by decide +kernel
theorem dX1_couples_60 : decode cX1_couples 60 = .ok (.bipush 12, 2) := by decide +kernel
theorem dX1_couples_62 : decode cX1_couples 62 = .ok (.lshr, 1) := by decide +kernel
theorem dX1_couples_63 : decode cX1_couples 63 = .ok (.goto 25, 3) := by decide +kernel
theorem dX1_couples_66 : decode cX1_couples 66 = .ok (.aload_n 0, 1) := by decide +kernel
theorem dX1_couples_67 : decode cX1_couples 67 = .ok (.getfield 25, 3) := by decide +kernel
theorem dX1_couples_70 : decode cX1_couples 70 = .ok (.iload_n 2, 1) := by decide +kernel
theorem dX1_couples_71 : decode cX1_couples 71 = .ok (.iaload, 1) := by decide +kernel
theorem dX1_couples_72 : decode cX1_couples 72 = .ok (.iconst 3, 1) := by decide +kernel
theorem dX1_couples_73 : decode cX1_couples 73 = .ok (.if_icmp .ne 14, 3) := by decide +kernel
theorem dX1_couples_76 : decode cX1_couples 76 = .ok (.lload_n 3, 1) := by decide +kernel
theorem dX1_couples_77 : decode cX1_couples 77 = .ok (.bipush 12, 2) := by decide +kernel
theorem dX1_couples_79 : decode cX1_couples 79 = .ok (.lshl, 1) := by decide +kernel
theorem dX1_couples_80 : decode cX1_couples 80 = .ok (.ldc2_w 97, 3) := by decide +kernel
theorem dX1_couples_83 : decode cX1_couples 83 = .ok (.land, 1) := by decide +kernel
theorem dX1_couples_84 : decode cX1_couples 84 = .ok (.goto 4, 3) := by decide +kernel
theorem dX1_couples_87 : decode cX1_couples 87 = .ok (.lload_n 3, 1) := by decide +kernel
theorem dX1_couples_88 : decode cX1_couples 88 = .ok (.lstore_n 3, 1) := by decide +kernel
theorem dX1_couples_89 : decode cX1_couples 89 = .ok (.aload_n 0, 1) := by decide +kernel
theorem dX1_couples_90 : decode cX1_couples 90 = .ok (.getfield 48, 3) := by decide +kernel
theorem dX1_couples_93 : decode cX1_couples 93 = .ok (.iload_n 2, 1) := by decide +kernel
theorem dX1_couples_94 : decode cX1_couples 94 = .ok (.iconst 3, 1) := by decide +kernel
theorem dX1_couples_95 : decode cX1_couples 95 = .ok (.irem, 1) := by decide +kernel
theorem dX1_couples_96 : decode cX1_couples 96 = .ok (.dup2, 1) := by decide +kernel
theorem dX1_couples_97 : decode cX1_couples 97 = .ok (.laload, 1) := by decide +kernel
theorem dX1_couples_98 : decode cX1_couples 98 = .ok (.aload_n 0, 1) := by decide +kernel
theorem dX1_couples_99 : decode cX1_couples 99 = .ok (.getfield 25, 3) := by decide +kernel
theorem dX1_couples_102 : decode cX1_couples 102 = .ok (.iload_n 2, 1) := by decide +kernel
theorem dX1_couples_103 : decode cX1_couples 103 = .ok (.iaload, 1) := by decide +kernel
theorem dX1_couples_104 : decode cX1_couples 104 = .ok (.ifCond .ne 7, 3) := by decide +kernel
theorem dX1_couples_107 : decode cX1_couples 107 = .ok (.lconst 0, 1) := by decide +kernel
theorem dX1_couples_108 : decode cX1_couples 108 = .ok (.goto 4, 3) := by decide +kernel
theorem dX1_couples_111 : decode cX1_couples 111 = .ok (.lload_n 3, 1) := by decide +kernel
theorem dX1_couples_112 : decode cX1_couples 112 = .ok (.lor, 1) := by decide +kernel
theorem dX1_couples_113 : decode cX1_couples 113 = .ok (.lastore, 1) := by decide +kernel
theorem dX1_couples_114 : decode cX1_couples 114 = .ok (.iinc 2 1, 3) := by decide +kernel
theorem dX1_couples_117 : decode cX1_couples 117 = .ok (.goto (-83), 3) := by decide +kernel
theorem dX1_couples_120 : decode cX1_couples 120 = .ok (.iinc 1 1, 3) := by decide +kernel
theorem dX1_couples_123 : decode cX1_couples 123 = .ok (.goto (-96), 3) := by decide +kernel
theorem dX1_couples_126 : decode cX1_couples 126 = .ok (.return_, 1) := by decide +kernel
theorem dX1_windOf_0 : decode cX1_windOf 0 = .ok (.aload_n 0, 1) := by decide +kernel
theorem dX1_windOf_1 : decode cX1_windOf 1 = .ok (.getfield 13, 3) := by decide +kernel
theorem dX1_windOf_4 : decode cX1_windOf 4 = .ok (.iload_n 1, 1) := by decide +kernel
theorem dX1_windOf_5 : decode cX1_windOf 5 = .ok (.iaload, 1) := by decide +kernel
theorem dX1_windOf_6 : decode cX1_windOf 6 = .ok (.bipush 60, 2) := by decide +kernel
theorem dX1_windOf_8 : decode cX1_windOf 8 = .ok (.iload_n 2, 1) := by decide +kernel
theorem dX1_windOf_9 : decode cX1_windOf 9 = .ok (.isub, 1) := by decide +kernel
theorem dX1_windOf_10 : decode cX1_windOf 10 = .ok (.bipush 12, 2) := by decide +kernel
theorem dX1_windOf_12 : decode cX1_windOf 12 = .ok (.idiv, 1) := by decide +kernel
theorem dX1_windOf_13 : decode cX1_windOf 13 = .ok (.iadd, 1) := by decide +kernel
theorem dX1_windOf_14 : decode cX1_windOf 14 = .ok (.ireturn, 1) := by decide +kernel
set_option maxRecDepth 20000 in
theorem ggX1_finds_X1_couples : GoodIn wsX1_finds wsX1_couples := goodIn_r _ [12, 3, 13, 14, 15, 24, 25, 26, 27, 28, 29, 30, 31, 32, 33, 34, 35, 36, 37, 38, 39] (by decide +kernel) (by decide +kernel)
set_option maxRecDepth 20000 in
theorem gX1_finds_X1_couples : GoodIn wsX1_finds (wsV RX1 99 RX1 yX1_couples wsX1_couples) := goodIn_app (goodIn_of _ (by decide +kernel)) ggX1_finds_X1_couples
set_option maxRecDepth 20000 in
theorem ggX1_finds_X1_has : GoodIn wsX1_finds wsX1_has := goodIn_r _ [18] (by decide +kernel) (by decide +kernel)
set_option maxRecDepth 20000 in
theorem gX1_finds_X1_has : GoodIn wsX1_finds (va_wsS RX1 61 yX1_has wsX1_has) := goodIn_app (goodIn_of _ (by decide +kernel)) ggX1_finds_X1_has
set_option maxRecDepth 20000 in
theorem ggX1_finds_X1_windOf : GoodIn wsX1_finds wsX1_windOf := goodIn_r _ [22, 23, 24, 25, 26, 27, 28, 29, 30, 31, 32, 33, 34, 35, 36, 37, 38, 39] (by decide +kernel) (by decide +kernel)
set_option maxRecDepth 20000 in
theorem gX1_finds_X1_windOf : GoodIn wsX1_finds (wsV RX1 102 RX1 yX1_windOf wsX1_windOf) := goodIn_app (goodIn_of _ (by decide +kernel)) ggX1_finds_X1_windOf
theorem dX1_finds_0 : decode cX1_finds 0 = .ok (.aload_n 0, 1) := by decide +kernel
theorem dX1_finds_1 : decode cX1_finds 1 = .ok (.invokevirtual 99, 3) := by decide +kernel
theorem dX1_finds_4 : decode cX1_finds 4 = .ok (.iconst 0, 1) := by decide +kernel
theorem dX1_finds_5 : decode cX1_finds 5 = .ok (.istore_n 1, 1) := by decide +kernel
theorem dX1_finds_6 : decode cX1_finds 6 = .ok (.iconst 0, 1) := by decide +kernel
theorem dX1_finds_7 : decode cX1_finds 7 = .ok (.istore_n 2, 1) := by decide +kernel
theorem dX1_finds_8 : decode cX1_finds 8 = .ok (.iload_n 2, 1) := by decide +kernel
theorem dX1_finds_9 : decode cX1_finds 9 = .ok (.bipush 6, 2) := by decide +kernel
theorem dX1_finds_11 : decode cX1_finds 11 = .ok (.if_icmp .ge 167, 3) := by decide +kernel
theorem dX1_finds_14 : decode cX1_finds 14 = .ok (.lconst 0, 1) := by decide +kernel
theorem dX1_finds_15 : decode cX1_finds 15 = .ok (.lstore_n 3, 1) := by decide +kernel
theorem dX1_finds_16 : decode cX1_finds 16 = .ok (.iconst 0, 1) := by decide +kernel
theorem dX1_finds_17 : decode cX1_finds 17 = .ok (.istore 5, 2) := by decide +kernel
theorem dX1_finds_19 : decode cX1_finds 19 = .ok (.iload 5, 2) := by decide +kernel
theorem dX1_finds_21 : decode cX1_finds 21 = .ok (.bipush 12, 2) := by decide +kernel
theorem dX1_finds_23 : decode cX1_finds 23 = .ok (.if_icmp .ge 52, 3) := by decide +kernel
theorem dX1_finds_26 : decode cX1_finds 26 = .ok (.lload_n 3, 1) := by decide +kernel
theorem dX1_finds_27 : decode cX1_finds 27 = .ok (.aload_n 0, 1) := by decide +kernel
theorem dX1_finds_28 : decode cX1_finds 28 = .ok (.getfield 75, 3) := by decide +kernel
theorem dX1_finds_31 : decode cX1_finds 31 = .ok (.i2l, 1) := by decide +kernel
theorem dX1_finds_32 : decode cX1_finds 32 = .ok (.iload 5, 2) := by decide +kernel
theorem dX1_finds_34 : decode cX1_finds 34 = .ok (.invokestatic 61, 3) := by decide +kernel
theorem dX1_finds_37 : decode cX1_finds 37 = .ok (.ifCond .eq 29, 3) := by decide +kernel
theorem dX1_finds_40 : decode cX1_finds 40 = .ok (.aload_n 0, 1) := by decide +kernel
theorem dX1_finds_41 : decode cX1_finds 41 = .ok (.getfield 22, 3) := by decide +kernel
theorem dX1_finds_44 : decode cX1_finds 44 = .ok (.iload 5, 2) := by decide +kernel
theorem dX1_finds_46 : decode cX1_finds 46 = .ok (.iaload, 1) := by decide +kernel
theorem dX1_finds_47 : decode cX1_finds 47 = .ok (.iload_n 2, 1) := by decide +kernel
theorem dX1_finds_48 : decode cX1_finds 48 = .ok (.if_icmp .ne 18, 3) := by decide +kernel
theorem dX1_finds_51 : decode cX1_finds 51 = .ok (.aload_n 0, 1) := by decide +kernel
theorem dX1_finds_52 : decode cX1_finds 52 = .ok (.getfield 48, 3) := by decide +kernel
theorem dX1_finds_55 : decode cX1_finds 55 = .ok (.aload_n 0, 1) := by decide +kernel
theorem dX1_finds_56 : decode cX1_finds 56 = .ok (.getfield 19, 3) := by decide +kernel
theorem dX1_finds_59 : decode cX1_finds 59 = .ok (.iload 5, 2) := by decide +kernel
theorem dX1_finds_61 : decode cX1_finds 61 = .ok (.iaload, 1) := by decide +kernel
theorem dX1_finds_62 : decode cX1_finds 62 = .ok (.laload, 1) := by decide +kernel
theorem dX1_finds_63 : decode cX1_finds 63 = .ok (.goto 4, 3) := by decide +kernel
theorem dX1_finds_66 : decode cX1_finds 66 = .ok (.lconst 0, 1) := by decide +kernel
theorem dX1_finds_67 : decode cX1_finds 67 = .ok (.lor, 1) := by decide +kernel
theorem dX1_finds_68 : decode cX1_finds 68 = .ok (.lstore_n 3, 1) := by decide +kernel
theorem dX1_finds_69 : decode cX1_finds 69 = .ok (.iinc 5 1, 3) := by decide +kernel
theorem dX1_finds_72 : decode cX1_finds 72 = .ok (.goto (-53), 3) := by decide +kernel
theorem dX1_finds_75 : decode cX1_finds 75 = .ok (.iconst 0, 1) := by decide +kernel
theorem dX1_finds_76 : decode cX1_finds 76 = .ok (.istore 5, 2) := by decide +kernel
theorem dX1_finds_78 : decode cX1_finds 78 = .ok (.iload 5, 2) := by decide +kernel
theorem dX1_finds_80 : decode cX1_finds 80 = .ok (.bipush 61, 2) := by decide +kernel
theorem dX1_finds_82 : decode cX1_finds 82 = .ok (.if_icmp .ge 83, 3) := by decide +kernel
theorem dX1_finds_85 : decode cX1_finds 85 = .ok (.lload_n 3, 1) := by decide +kernel
theorem dX1_finds_86 : decode cX1_finds 86 = .ok (.iload 5, 2) := by decide +kernel
theorem dX1_finds_88 : decode cX1_finds 88 = .ok (.invokestatic 61, 3) := by decide +kernel
theorem dX1_finds_91 : decode cX1_finds 91 = .ok (.ifCond .eq 24, 3) := by decide +kernel
theorem dX1_finds_94 : decode cX1_finds 94 = .ok (.aload_n 0, 1) := by decide +kernel
theorem dX1_finds_95 : decode cX1_finds 95 = .ok (.getfield 45, 3) := by decide +kernel
theorem dX1_finds_98 : decode cX1_finds 98 = .ok (.bipush 61, 2) := by decide +kernel
theorem dX1_finds_100 : decode cX1_finds 100 = .ok (.iload_n 2, 1) := by decide +kernel
theorem dX1_finds_101 : decode cX1_finds 101 = .ok (.imul, 1) := by decide +kernel
theorem dX1_finds_102 : decode cX1_finds 102 = .ok (.iload 5, 2) := by decide +kernel
theorem dX1_finds_104 : decode cX1_finds 104 = .ok (.iadd, 1) := by decide +kernel
theorem dX1_finds_105 : decode cX1_finds 105 = .ok (.iaload, 1) := by decide +kernel
theorem dX1_finds_106 : decode cX1_finds 106 = .ok (.bipush 50, 2) := by decide +kernel
theorem dX1_finds_108 : decode cX1_finds 108 = .ok (.if_icmp .ge 7, 3) := by decide +kernel
theorem dX1_finds_111 : decode cX1_finds 111 = .ok (.iconst 1, 1) := by decide +kernel
theorem dX1_finds_112 : decode cX1_finds 112 = .ok (.goto 4, 3) := by decide +kernel
theorem dX1_finds_115 : decode cX1_finds 115 = .ok (.iconst 0, 1) := by decide +kernel
theorem dX1_finds_116 : decode cX1_finds 116 = .ok (.istore 6, 2) := by decide +kernel
theorem dX1_finds_118 : decode cX1_finds 118 = .ok (.lload_n 3, 1) := by decide +kernel
theorem dX1_finds_119 : decode cX1_finds 119 = .ok (.iload 6, 2) := by decide +kernel
theorem dX1_finds_121 : decode cX1_finds 121 = .ok (.ifCond .eq 9, 3) := by decide +kernel
theorem dX1_finds_124 : decode cX1_finds 124 = .ok (.ldc2_w 95, 3) := by decide +kernel
theorem dX1_finds_127 : decode cX1_finds 127 = .ok (.goto 11, 3) := by decide +kernel
theorem dX1_finds_130 : decode cX1_finds 130 = .ok (.lconst 1, 1) := by decide +kernel
theorem dX1_finds_131 : decode cX1_finds 131 = .ok (.iload 5, 2) := by decide +kernel
theorem dX1_finds_133 : decode cX1_finds 133 = .ok (.lshl, 1) := by decide +kernel
theorem dX1_finds_134 : decode cX1_finds 134 = .ok (.ldc2_w 95, 3) := by decide +kernel
theorem dX1_finds_137 : decode cX1_finds 137 = .ok (.lxor, 1) := by decide +kernel
theorem dX1_finds_138 : decode cX1_finds 138 = .ok (.land, 1) := by decide +kernel
theorem dX1_finds_139 : decode cX1_finds 139 = .ok (.lstore_n 3, 1) := by decide +kernel
theorem dX1_finds_140 : decode cX1_finds 140 = .ok (.iload_n 1, 1) := by decide +kernel
theorem dX1_finds_141 : decode cX1_finds 141 = .ok (.iload 6, 2) := by decide +kernel
theorem dX1_finds_143 : decode cX1_finds 143 = .ok (.ifCond .eq 13, 3) := by decide +kernel
theorem dX1_finds_146 : decode cX1_finds 146 = .ok (.aload_n 0, 1) := by decide +kernel
theorem dX1_finds_147 : decode cX1_finds 147 = .ok (.iload_n 2, 1) := by decide +kernel
theorem dX1_finds_148 : decode cX1_finds 148 = .ok (.iload 5, 2) := by decide +kernel
theorem dX1_finds_150 : decode cX1_finds 150 = .ok (.invokevirtual 102, 3) := by decide +kernel
theorem dX1_finds_153 : decode cX1_finds 153 = .ok (.goto 4, 3) := by decide +kernel
theorem dX1_finds_156 : decode cX1_finds 156 = .ok (.iconst 0, 1) := by decide +kernel
theorem dX1_finds_157 : decode cX1_finds 157 = .ok (.iadd, 1) := by decide +kernel
theorem dX1_finds_158 : decode cX1_finds 158 = .ok (.istore_n 1, 1) := by decide +kernel
theorem dX1_finds_159 : decode cX1_finds 159 = .ok (.iinc 5 1, 3) := by decide +kernel
theorem dX1_finds_162 : decode cX1_finds 162 = .ok (.goto (-84), 3) := by decide +kernel
theorem dX1_finds_165 : decode cX1_finds 165 = .ok (.aload_n 0, 1) := by decide +kernel
theorem dX1_finds_166 : decode cX1_finds 166 = .ok (.getfield 51, 3) := by decide +kernel
theorem dX1_finds_169 : decode cX1_finds 169 = .ok (.iload_n 2, 1) := by decide +kernel
theorem dX1_finds_170 : decode cX1_finds 170 = .ok (.lload_n 3, 1) := by decide +kernel
theorem dX1_finds_171 : decode cX1_finds 171 = .ok (.lastore, 1) := by decide +kernel
theorem dX1_finds_172 : decode cX1_finds 172 = .ok (.iinc 2 1, 3) := by decide +kernel
theorem dX1_finds_175 : decode cX1_finds 175 = .ok (.goto (-167), 3) := by decide +kernel
theorem dX1_finds_178 : decode cX1_finds 178 = .ok (.iload_n 1, 1) := by decide +kernel
theorem dX1_finds_179 : decode cX1_finds 179 = .ok (.ireturn, 1) := by decide +kernel
theorem dX1_stepOf_0 : decode cX1_stepOf 0 = .ok (.iload_n 1, 1) := by decide +kernel
theorem dX1_stepOf_1 : decode cX1_stepOf 1 = .ok (.aload_n 0, 1) := by decide +kernel
theorem dX1_stepOf_2 : decode cX1_stepOf 2 = .ok (.getfield 28, 3) := by decide +kernel
theorem dX1_stepOf_5 : decode cX1_stepOf 5 = .ok (.if_icmp .gt 5, 3) := by decide +kernel
theorem dX1_stepOf_8 : decode cX1_stepOf 8 = .ok (.iconst 0, 1) := by decide +kernel
theorem dX1_stepOf_9 : decode cX1_stepOf 9 = .ok (.ireturn, 1) := by decide +kernel
theorem dX1_stepOf_10 : decode cX1_stepOf 10 = .ok (.iconst 1, 1) := by decide +kernel
theorem dX1_stepOf_11 : decode cX1_stepOf 11 = .ok (.bipush 10, 2) := by decide +kernel
theorem dX1_stepOf_13 : decode cX1_stepOf 13 = .ok (.iload_n 1, 1) := by decide +kernel
theorem dX1_stepOf_14 : decode cX1_stepOf 14 = .ok (.aload_n 0, 1) := by decide +kernel
theorem dX1_stepOf_15 : decode cX1_stepOf 15 = .ok (.getfield 28, 3) := by decide +kernel
theorem dX1_stepOf_18 : decode cX1_stepOf 18 = .ok (.isub, 1) := by decide +kernel
theorem dX1_stepOf_19 : decode cX1_stepOf 19 = .ok (.imul, 1) := by decide +kernel
theorem dX1_stepOf_20 : decode cX1_stepOf 20 = .ok (.aload_n 0, 1) := by decide +kernel
theorem dX1_stepOf_21 : decode cX1_stepOf 21 = .ok (.getfield 28, 3) := by decide +kernel
theorem dX1_stepOf_24 : decode cX1_stepOf 24 = .ok (.idiv, 1) := by decide +kernel
theorem dX1_stepOf_25 : decode cX1_stepOf 25 = .ok (.iadd, 1) := by decide +kernel
theorem dX1_stepOf_26 : decode cX1_stepOf 26 = .ok (.istore_n 2, 1) := by decide +kernel
theorem dX1_stepOf_27 : decode cX1_stepOf 27 = .ok (.iload_n 2, 1) := by decide +kernel
theorem dX1_stepOf_28 : decode cX1_stepOf 28 = .ok (.bipush 10, 2) := by decide +kernel
theorem dX1_stepOf_30 : decode cX1_stepOf 30 = .ok (.if_icmp .le 8, 3) := by decide +kernel
theorem dX1_stepOf_33 : decode cX1_stepOf 33 = .ok (.bipush 10, 2) := by decide +kernel
theorem dX1_stepOf_35 : decode cX1_stepOf 35 = .ok (.goto 4, 3) := by decide +kernel
theorem dX1_stepOf_38 : decode cX1_stepOf 38 = .ok (.iload_n 2, 1) := by decide +kernel
theorem dX1_stepOf_39 : decode cX1_stepOf 39 = .ok (.ireturn, 1) := by decide +kernel
theorem dX1_pitchOf_0 : decode cX1_pitchOf 0 = .ok (.aload_n 0, 1) := by decide +kernel
theorem dX1_pitchOf_1 : decode cX1_pitchOf 1 = .ok (.getfield 7, 3) := by decide +kernel
theorem dX1_pitchOf_4 : decode cX1_pitchOf 4 = .ok (.iload_n 1, 1) := by decide +kernel
theorem dX1_pitchOf_5 : decode cX1_pitchOf 5 = .ok (.iaload, 1) := by decide +kernel
theorem dX1_pitchOf_6 : decode cX1_pitchOf 6 = .ok (.ifCond .ne 8, 3) := by decide +kernel
theorem dX1_pitchOf_9 : decode cX1_pitchOf 9 = .ok (.bipush (-12), 2) := by decide +kernel
theorem dX1_pitchOf_11 : decode cX1_pitchOf 11 = .ok (.goto 34, 3) := by decide +kernel
theorem dX1_pitchOf_14 : decode cX1_pitchOf 14 = .ok (.aload_n 0, 1) := by decide +kernel
theorem dX1_pitchOf_15 : decode cX1_pitchOf 15 = .ok (.getfield 7, 3) := by decide +kernel
theorem dX1_pitchOf_18 : decode cX1_pitchOf 18 = .ok (.iload_n 1, 1) := by decide +kernel
theorem dX1_pitchOf_19 : decode cX1_pitchOf 19 = .ok (.iaload, 1) := by decide +kernel
theorem dX1_pitchOf_20 : decode cX1_pitchOf 20 = .ok (.iconst 1, 1) := by decide +kernel
theorem dX1_pitchOf_21 : decode cX1_pitchOf 21 = .ok (.if_icmp .ne 7, 3) := by decide +kernel
theorem dX1_pitchOf_24 : decode cX1_pitchOf 24 = .ok (.iconst 0, 1) := by decide +kernel
theorem dX1_pitchOf_25 : decode cX1_pitchOf 25 = .ok (.goto 20, 3) := by decide +kernel
theorem dX1_pitchOf_28 : decode cX1_pitchOf 28 = .ok (.aload_n 0, 1) := by decide +kernel
theorem dX1_pitchOf_29 : decode cX1_pitchOf 29 = .ok (.getfield 7, 3) := by decide +kernel
theorem dX1_pitchOf_32 : decode cX1_pitchOf 32 = .ok (.iload_n 1, 1) := by decide +kernel
theorem dX1_pitchOf_33 : decode cX1_pitchOf 33 = .ok (.iaload, 1) := by decide +kernel
theorem dX1_pitchOf_34 : decode cX1_pitchOf 34 = .ok (.iconst 2, 1) := by decide +kernel
theorem dX1_pitchOf_35 : decode cX1_pitchOf 35 = .ok (.if_icmp .ne 8, 3) := by decide +kernel
theorem dX1_pitchOf_38 : decode cX1_pitchOf 38 = .ok (.bipush 12, 2) := by decide +kernel
theorem dX1_pitchOf_40 : decode cX1_pitchOf 40 = .ok (.goto 5, 3) := by decide +kernel
theorem dX1_pitchOf_43 : decode cX1_pitchOf 43 = .ok (.bipush 19, 2) := by decide +kernel
theorem dX1_pitchOf_45 : decode cX1_pitchOf 45 = .ok (.istore 4, 2) := by decide +kernel
theorem dX1_pitchOf_47 : decode cX1_pitchOf 47 = .ok (.bipush 100, 2) := by decide +kernel
theorem dX1_pitchOf_49 : decode cX1_pitchOf 49 = .ok (.iload_n 2, 1) := by decide +kernel
theorem dX1_pitchOf_50 : decode cX1_pitchOf 50 = .ok (.iload 4, 2) := by decide +kernel
theorem dX1_pitchOf_52 : decode cX1_pitchOf 52 = .ok (.iadd, 1) := by decide +kernel
theorem dX1_pitchOf_53 : decode cX1_pitchOf 53 = .ok (.imul, 1) := by decide +kernel
theorem dX1_pitchOf_54 : decode cX1_pitchOf 54 = .ok (.aload_n 0, 1) := by decide +kernel
theorem dX1_pitchOf_55 : decode cX1_pitchOf 55 = .ok (.getfield 35, 3) := by decide +kernel
theorem dX1_pitchOf_58 : decode cX1_pitchOf 58 = .ok (.iload_n 2, 1) := by decide +kernel
theorem dX1_pitchOf_59 : decode cX1_pitchOf 59 = .ok (.bipush 12, 2) := by decide +kernel
theorem dX1_pitchOf_61 : decode cX1_pitchOf 61 = .ok (.irem, 1) := by decide +kernel
theorem dX1_pitchOf_62 : decode cX1_pitchOf 62 = .ok (.iaload, 1) := by decide +kernel
theorem dX1_pitchOf_63 : decode cX1_pitchOf 63 = .ok (.iadd, 1) := by decide +kernel
theorem dX1_pitchOf_64 : decode cX1_pitchOf 64 = .ok (.aload_n 0, 1) := by decide +kernel
theorem dX1_pitchOf_65 : decode cX1_pitchOf 65 = .ok (.getfield 16, 3) := by decide +kernel
theorem dX1_pitchOf_68 : decode cX1_pitchOf 68 = .ok (.iload_n 1, 1) := by decide +kernel
theorem dX1_pitchOf_69 : decode cX1_pitchOf 69 = .ok (.iaload, 1) := by decide +kernel
theorem dX1_pitchOf_70 : decode cX1_pitchOf 70 = .ok (.iadd, 1) := by decide +kernel
theorem dX1_pitchOf_71 : decode cX1_pitchOf 71 = .ok (.aload_n 0, 1) := by decide +kernel
theorem dX1_pitchOf_72 : decode cX1_pitchOf 72 = .ok (.getfield 32, 3) := by decide +kernel
theorem dX1_pitchOf_75 : decode cX1_pitchOf 75 = .ok (.iload_n 3, 1) := by decide +kernel
theorem dX1_pitchOf_76 : decode cX1_pitchOf 76 = .ok (.iaload, 1) := by decide +kernel
theorem dX1_pitchOf_77 : decode cX1_pitchOf 77 = .ok (.isub, 1) := by decide +kernel
theorem dX1_pitchOf_78 : decode cX1_pitchOf 78 = .ok (.ireturn, 1) := by decide +kernel
set_option maxRecDepth 20000 in
theorem ggX1_soundingNow_X1_finds : GoodIn wsX1_soundingNow wsX1_finds := goodIn_r _ [6, 7, 8, 9, 10, 11, 12, 1, 13, 14, 15, 5, 16, 17, 18, 19, 20, 21, 22, 23, 24, 25, 26, 27, 31, 32, 33, 34, 35, 36, 37, 38, 39, 40, 41, 42, 43, 44, 45, 46] (by decide +kernel) (by decide +kernel)
set_option maxRecDepth 20000 in
theorem gX1_soundingNow_X1_finds : GoodIn wsX1_soundingNow (wsV RX1 106 RX1 yX1_finds wsX1_finds) := goodIn_app (goodIn_of _ (by decide +kernel)) ggX1_soundingNow_X1_finds
set_option maxRecDepth 20000 in
theorem ggX1_soundingNow_X1_count : GoodIn wsX1_soundingNow wsX1_count := goodIn_r _ [30, 20, 21, 5, 22] (by decide +kernel) (by decide +kernel)
set_option maxRecDepth 20000 in
theorem gX1_soundingNow_X1_count : GoodIn wsX1_soundingNow (va_wsS RX1 88 yX1_count wsX1_count) := goodIn_app (goodIn_of _ (by decide +kernel)) ggX1_soundingNow_X1_count
theorem dX1_soundingNow_0 : decode cX1_soundingNow 0 = .ok (.aload_n 0, 1) := by decide +kernel
theorem dX1_soundingNow_1 : decode cX1_soundingNow 1 = .ok (.invokevirtual 106, 3) := by decide +kernel
theorem dX1_soundingNow_4 : decode cX1_soundingNow 4 = .ok (.istore_n 1, 1) := by decide +kernel
theorem dX1_soundingNow_5 : decode cX1_soundingNow 5 = .ok (.iconst 0, 1) := by decide +kernel
theorem dX1_soundingNow_6 : decode cX1_soundingNow 6 = .ok (.istore_n 2, 1) := by decide +kernel
theorem dX1_soundingNow_7 : decode cX1_soundingNow 7 = .ok (.iconst 0, 1) := by decide +kernel
theorem dX1_soundingNow_8 : decode cX1_soundingNow 8 = .ok (.istore_n 3, 1) := by decide +kernel
theorem dX1_soundingNow_9 : decode cX1_soundingNow 9 = .ok (.iload_n 3, 1) := by decide +kernel
theorem dX1_soundingNow_10 : decode cX1_soundingNow 10 = .ok (.bipush 6, 2) := by decide +kernel
theorem dX1_soundingNow_12 : decode cX1_soundingNow 12 = .ok (.if_icmp .ge 21, 3) := by decide +kernel
theorem dX1_soundingNow_15 : decode cX1_soundingNow 15 = .ok (.iload_n 2, 1) := by decide +kernel
theorem dX1_soundingNow_16 : decode cX1_soundingNow 16 = .ok (.aload_n 0, 1) := by decide +kernel
theorem dX1_soundingNow_17 : decode cX1_soundingNow 17 = .ok (.getfield 51, 3) := by decide +kernel
theorem dX1_soundingNow_20 : decode cX1_soundingNow 20 = .ok (.iload_n 3, 1) := by decide +kernel
theorem dX1_soundingNow_21 : decode cX1_soundingNow 21 = .ok (.laload, 1) := by decide +kernel
theorem dX1_soundingNow_22 : decode cX1_soundingNow 22 = .ok (.invokestatic 88, 3) := by decide +kernel
theorem dX1_soundingNow_25 : decode cX1_soundingNow 25 = .ok (.iadd, 1) := by decide +kernel
theorem dX1_soundingNow_26 : decode cX1_soundingNow 26 = .ok (.istore_n 2, 1) := by decide +kernel
theorem dX1_soundingNow_27 : decode cX1_soundingNow 27 = .ok (.iinc 3 1, 3) := by decide +kernel
theorem dX1_soundingNow_30 : decode cX1_soundingNow 30 = .ok (.goto (-21), 3) := by decide +kernel
theorem dX1_soundingNow_33 : decode cX1_soundingNow 33 = .ok (.iload_n 2, 1) := by decide +kernel
theorem dX1_soundingNow_34 : decode cX1_soundingNow 34 = .ok (.ireturn, 1) := by decide +kernel
set_option maxRecDepth 20000 in
theorem ggX1_sound_X1_isIn : GoodIn wsX1_sound wsX1_isIn := goodIn_r _ [6] (by decide +kernel) (by decide +kernel)
set_option maxRecDepth 20000 in
theorem gX1_sound_X1_isIn : GoodIn wsX1_sound (va_wsS RX1 57 yX1_isIn wsX1_isIn) := goodIn_app (goodIn_of _ (by decide +kernel)) ggX1_sound_X1_isIn
set_option maxRecDepth 20000 in
theorem ggX1_sound_X1_isFine : GoodIn wsX1_sound wsX1_isFine := goodIn_r _ [10, 11, 43, 44, 45, 46, 47, 48, 49, 50, 51, 52, 53, 54, 55, 56, 57, 58] (by decide +kernel) (by decide +kernel)
set_option maxRecDepth 20000 in
theorem gX1_sound_X1_isFine : GoodIn wsX1_sound (wsV RX1 69 RX1 yX1_isFine wsX1_isFine) := goodIn_app (goodIn_of _ (by decide +kernel)) ggX1_sound_X1_isFine
set_option maxRecDepth 20000 in
theorem ggX1_sound_X1_soundingNow : GoodIn wsX1_sound wsX1_soundingNow := goodIn_r _ [15, 2, 16, 17, 18, 5, 19, 20, 21, 22, 23, 1, 24, 25, 26, 27, 28, 29, 30, 31, 32, 33, 34, 35, 36, 37, 38, 39, 40, 41, 42, 43, 44, 45, 46, 47, 48, 49, 50, 51, 52, 53, 54, 55, 56, 57, 58] (by decide +kernel) (by decide +kernel)
set_option maxRecDepth 20000 in
theorem gX1_sound_X1_soundingNow : GoodIn wsX1_sound (wsV RX1 110 RX1 yX1_soundingNow wsX1_soundingNow) := goodIn_app (goodIn_of _ (by decide +kernel)) ggX1_sound_X1_soundingNow
set_option maxRecDepth 20000 in
theorem ggX1_sound_X1_has : GoodIn wsX1_sound wsX1_has := goodIn_r _ [34] (by decide +kernel) (by decide +kernel)
set_option maxRecDepth 20000 in
theorem gX1_sound_X1_has : GoodIn wsX1_sound (va_wsS RX1 61 yX1_has wsX1_has) := goodIn_app (goodIn_of _ (by decide +kernel)) ggX1_sound_X1_has
theorem dX1_sound_0 : decode cX1_sound 0 = .ok (.aload_n 0, 1) := by decide +kernel
theorem dX1_sound_1 : decode cX1_sound 1 = .ok (.iload_n 1, 1) := by decide +kernel
theorem dX1_sound_2 : decode cX1_sound 2 = .ok (.iconst 1, 1) := by decide +kernel
theorem dX1_sound_3 : decode cX1_sound 3 = .ok (.bipush 50, 2) := by decide +kernel
theorem dX1_sound_5 : decode cX1_sound 5 = .ok (.invokestatic 57, 3) := by decide +kernel
theorem dX1_sound_8 : decode cX1_sound 8 = .ok (.ifCond .eq 7, 3) := by decide +kernel
theorem dX1_sound_11 : decode cX1_sound 11 = .ok (.iconst 0, 1) := by decide +kernel
theorem dX1_sound_12 : decode cX1_sound 12 = .ok (.goto 4, 3) := by decide +kernel
theorem dX1_sound_15 : decode cX1_sound 15 = .ok (.iconst 1, 1) := by decide +kernel
theorem dX1_sound_16 : decode cX1_sound 16 = .ok (.invokevirtual 69, 3) := by decide +kernel
theorem dX1_sound_19 : decode cX1_sound 19 = .ok (.ifCond .ne 5, 3) := by decide +kernel
theorem dX1_sound_22 : decode cX1_sound 22 = .ok (.iconst 0, 1) := by decide +kernel
theorem dX1_sound_23 : decode cX1_sound 23 = .ok (.ireturn, 1) := by decide +kernel
theorem dX1_sound_24 : decode cX1_sound 24 = .ok (.aload_n 0, 1) := by decide +kernel
theorem dX1_sound_25 : decode cX1_sound 25 = .ok (.invokevirtual 110, 3) := by decide +kernel
theorem dX1_sound_28 : decode cX1_sound 28 = .ok (.istore_n 2, 1) := by decide +kernel
theorem dX1_sound_29 : decode cX1_sound 29 = .ok (.iconst 0, 1) := by decide +kernel
theorem dX1_sound_30 : decode cX1_sound 30 = .ok (.istore_n 3, 1) := by decide +kernel
theorem dX1_sound_31 : decode cX1_sound 31 = .ok (.iload_n 3, 1) := by decide +kernel
theorem dX1_sound_32 : decode cX1_sound 32 = .ok (.sipush 366, 3) := by decide +kernel
theorem dX1_sound_35 : decode cX1_sound 35 = .ok (.if_icmp .ge 42, 3) := by decide +kernel
theorem dX1_sound_38 : decode cX1_sound 38 = .ok (.aload_n 0, 1) := by decide +kernel
theorem dX1_sound_39 : decode cX1_sound 39 = .ok (.getfield 45, 3) := by decide +kernel
theorem dX1_sound_42 : decode cX1_sound 42 = .ok (.iload_n 3, 1) := by decide +kernel
theorem dX1_sound_43 : decode cX1_sound 43 = .ok (.dup2, 1) := by decide +kernel
theorem dX1_sound_44 : decode cX1_sound 44 = .ok (.iaload, 1) := by decide +kernel
theorem dX1_sound_45 : decode cX1_sound 45 = .ok (.aload_n 0, 1) := by decide +kernel
theorem dX1_sound_46 : decode cX1_sound 46 = .ok (.getfield 51, 3) := by decide +kernel
theorem dX1_sound_49 : decode cX1_sound 49 = .ok (.iload_n 3, 1) := by decide +kernel
theorem dX1_sound_50 : decode cX1_sound 50 = .ok (.bipush 61, 2) := by decide +kernel
theorem dX1_sound_52 : decode cX1_sound 52 = .ok (.idiv, 1) := by decide +kernel
theorem dX1_sound_53 : decode cX1_sound 53 = .ok (.laload, 1) := by decide +kernel
theorem dX1_sound_54 : decode cX1_sound 54 = .ok (.iload_n 3, 1) := by decide +kernel
theorem dX1_sound_55 : decode cX1_sound 55 = .ok (.bipush 61, 2) := by decide +kernel
theorem dX1_sound_57 : decode cX1_sound 57 = .ok (.irem, 1) := by decide +kernel
theorem dX1_sound_58 : decode cX1_sound 58 = .ok (.invokestatic 61, 3) := by decide +kernel
theorem dX1_sound_61 : decode cX1_sound 61 = .ok (.ifCond .eq 7, 3) := by decide +kernel
theorem dX1_sound_64 : decode cX1_sound 64 = .ok (.iload_n 1, 1) := by decide +kernel
theorem dX1_sound_65 : decode cX1_sound 65 = .ok (.goto 4, 3) := by decide +kernel
theorem dX1_sound_68 : decode cX1_sound 68 = .ok (.iconst 0, 1) := by decide +kernel
theorem dX1_sound_69 : decode cX1_sound 69 = .ok (.iadd, 1) := by decide +kernel
theorem dX1_sound_70 : decode cX1_sound 70 = .ok (.iastore, 1) := by decide +kernel
theorem dX1_sound_71 : decode cX1_sound 71 = .ok (.iinc 3 1, 3) := by decide +kernel
theorem dX1_sound_74 : decode cX1_sound 74 = .ok (.goto (-43), 3) := by decide +kernel
theorem dX1_sound_77 : decode cX1_sound 77 = .ok (.iload_n 2, 1) := by decide +kernel
theorem dX1_sound_78 : decode cX1_sound 78 = .ok (.ireturn, 1) := by decide +kernel
set_option maxRecDepth 20000 in
theorem ggX1_repair_X1_isRank : GoodIn wsX1_repair wsX1_isRank := goodIn_r _ [5, 6, 7, 4, 8] (by decide +kernel) (by decide +kernel)
set_option maxRecDepth 20000 in
theorem gX1_repair_X1_isRank : GoodIn wsX1_repair (va_wsS RX1 65 yX1_isRank wsX1_isRank) := goodIn_app (goodIn_of _ (by decide +kernel)) ggX1_repair_X1_isRank
set_option maxRecDepth 20000 in
theorem ggX1_repair_X1_isFine : GoodIn wsX1_repair wsX1_isFine := goodIn_r _ [12, 13, 14, 15, 16, 17, 18, 19, 20, 21, 22, 23, 24, 25, 26, 27, 28, 29] (by decide +kernel) (by decide +kernel)
set_option maxRecDepth 20000 in
theorem gX1_repair_X1_isFine : GoodIn wsX1_repair (wsV RX1 69 RX1 yX1_isFine wsX1_isFine) := goodIn_app (goodIn_of _ (by decide +kernel)) ggX1_repair_X1_isFine
theorem dX1_repair_0 : decode cX1_repair 0 = .ok (.aload_n 0, 1) := by decide +kernel
theorem dX1_repair_1 : decode cX1_repair 1 = .ok (.iload_n 1, 1) := by decide +kernel
theorem dX1_repair_2 : decode cX1_repair 2 = .ok (.invokestatic 65, 3) := by decide +kernel
theorem dX1_repair_5 : decode cX1_repair 5 = .ok (.ifCond .eq 7, 3) := by decide +kernel
theorem dX1_repair_8 : decode cX1_repair 8 = .ok (.iconst 0, 1) := by decide +kernel
theorem dX1_repair_9 : decode cX1_repair 9 = .ok (.goto 4, 3) := by decide +kernel
theorem dX1_repair_12 : decode cX1_repair 12 = .ok (.iconst 1, 1) := by decide +kernel
theorem dX1_repair_13 : decode cX1_repair 13 = .ok (.invokevirtual 69, 3) := by decide +kernel
theorem dX1_repair_16 : decode cX1_repair 16 = .ok (.ifCond .ne 5, 3) := by decide +kernel
theorem dX1_repair_19 : decode cX1_repair 19 = .ok (.iconst 0, 1) := by decide +kernel
theorem dX1_repair_20 : decode cX1_repair 20 = .ok (.ireturn, 1) := by decide +kernel
theorem dX1_repair_21 : decode cX1_repair 21 = .ok (.iconst 0, 1) := by decide +kernel
theorem dX1_repair_22 : decode cX1_repair 22 = .ok (.istore_n 2, 1) := by decide +kernel
theorem dX1_repair_23 : decode cX1_repair 23 = .ok (.bipush 61, 2) := by decide +kernel
theorem dX1_repair_25 : decode cX1_repair 25 = .ok (.iload_n 1, 1) := by decide +kernel
theorem dX1_repair_26 : decode cX1_repair 26 = .ok (.imul, 1) := by decide +kernel
theorem dX1_repair_27 : decode cX1_repair 27 = .ok (.istore_n 3, 1) := by decide +kernel
theorem dX1_repair_28 : decode cX1_repair 28 = .ok (.iload_n 3, 1) := by decide +kernel
theorem dX1_repair_29 : decode cX1_repair 29 = .ok (.bipush 61, 2) := by decide +kernel
theorem dX1_repair_31 : decode cX1_repair 31 = .ok (.iload_n 1, 1) := by decide +kernel
theorem dX1_repair_32 : decode cX1_repair 32 = .ok (.imul, 1) := by decide +kernel
theorem dX1_repair_33 : decode cX1_repair 33 = .ok (.bipush 61, 2) := by decide +kernel
theorem dX1_repair_35 : decode cX1_repair 35 = .ok (.iadd, 1) := by decide +kernel
theorem dX1_repair_36 : decode cX1_repair 36 = .ok (.if_icmp .ge 35, 3) := by decide +kernel
theorem dX1_repair_39 : decode cX1_repair 39 = .ok (.iload_n 2, 1) := by decide +kernel
theorem dX1_repair_40 : decode cX1_repair 40 = .ok (.aload_n 0, 1) := by decide +kernel
theorem dX1_repair_41 : decode cX1_repair 41 = .ok (.getfield 45, 3) := by decide +kernel
theorem dX1_repair_44 : decode cX1_repair 44 = .ok (.iload_n 3, 1) := by decide +kernel
theorem dX1_repair_45 : decode cX1_repair 45 = .ok (.iaload, 1) := by decide +kernel
theorem dX1_repair_46 : decode cX1_repair 46 = .ok (.bipush 50, 2) := by decide +kernel
theorem dX1_repair_48 : decode cX1_repair 48 = .ok (.if_icmp .lt 7, 3) := by decide +kernel
theorem dX1_repair_51 : decode cX1_repair 51 = .ok (.iconst 1, 1) := by decide +kernel
theorem dX1_repair_52 : decode cX1_repair 52 = .ok (.goto 4, 3) := by decide +kernel
theorem dX1_repair_55 : decode cX1_repair 55 = .ok (.iconst 0, 1) := by decide +kernel
theorem dX1_repair_56 : decode cX1_repair 56 = .ok (.iadd, 1) := by decide +kernel
theorem dX1_repair_57 : decode cX1_repair 57 = .ok (.istore_n 2, 1) := by decide +kernel
theorem dX1_repair_58 : decode cX1_repair 58 = .ok (.aload_n 0, 1) := by decide +kernel
theorem dX1_repair_59 : decode cX1_repair 59 = .ok (.getfield 45, 3) := by decide +kernel
theorem dX1_repair_62 : decode cX1_repair 62 = .ok (.iload_n 3, 1) := by decide +kernel
theorem dX1_repair_63 : decode cX1_repair 63 = .ok (.iconst 0, 1) := by decide +kernel
theorem dX1_repair_64 : decode cX1_repair 64 = .ok (.iastore, 1) := by decide +kernel
theorem dX1_repair_65 : decode cX1_repair 65 = .ok (.iinc 3 1, 3) := by decide +kernel
theorem dX1_repair_68 : decode cX1_repair 68 = .ok (.goto (-40), 3) := by decide +kernel
theorem dX1_repair_71 : decode cX1_repair 71 = .ok (.iload_n 2, 1) := by decide +kernel
theorem dX1_repair_72 : decode cX1_repair 72 = .ok (.ireturn, 1) := by decide +kernel
set_option maxRecDepth 20000 in
theorem ggX1_pipes_X1_soundingNow : GoodIn wsX1_pipes wsX1_soundingNow := goodIn_r _ [6, 7, 8, 9, 10, 5, 11, 12, 13, 14, 15, 16, 17, 18, 19, 20, 21, 22, 23, 24, 25, 26, 27, 28, 29, 30, 31, 32, 33, 34, 35, 36, 37, 38, 39, 40, 41, 42, 43, 44, 45, 46, 47, 48, 49, 50, 51] (by decide +kernel) (by decide +kernel)
set_option maxRecDepth 20000 in
theorem gX1_pipes_X1_soundingNow : GoodIn wsX1_pipes (wsV RX1 110 RX1 yX1_soundingNow wsX1_soundingNow) := goodIn_app (goodIn_of _ (by decide +kernel)) ggX1_pipes_X1_soundingNow
theorem dX1_pipes_0 : decode cX1_pipes 0 = .ok (.aload_n 0, 1) := by decide +kernel
theorem dX1_pipes_1 : decode cX1_pipes 1 = .ok (.iconst 0, 1) := by decide +kernel
theorem dX1_pipes_2 : decode cX1_pipes 2 = .ok (.putfield 54, 3) := by decide +kernel
theorem dX1_pipes_5 : decode cX1_pipes 5 = .ok (.aload_n 0, 1) := by decide +kernel
theorem dX1_pipes_6 : decode cX1_pipes 6 = .ok (.invokevirtual 110, 3) := by decide +kernel
theorem dX1_pipes_9 : decode cX1_pipes 9 = .ok (.ireturn, 1) := by decide +kernel
set_option maxRecDepth 20000 in
theorem ggX1_sounds_X1_isRank : GoodIn wsX1_sounds wsX1_isRank := goodIn_r _ [5, 6, 7, 4, 8] (by decide +kernel) (by decide +kernel)
set_option maxRecDepth 20000 in
theorem gX1_sounds_X1_isRank : GoodIn wsX1_sounds (va_wsS RX1 65 yX1_isRank wsX1_isRank) := goodIn_app (goodIn_of _ (by decide +kernel)) ggX1_sounds_X1_isRank
set_option maxRecDepth 20000 in
theorem ggX1_sounds_X1_isKey : GoodIn wsX1_sounds wsX1_isKey := goodIn_r _ [11, 6, 7, 4, 8] (by decide +kernel) (by decide +kernel)
set_option maxRecDepth 20000 in
theorem gX1_sounds_X1_isKey : GoodIn wsX1_sounds (va_wsS RX1 92 yX1_isKey wsX1_isKey) := goodIn_app (goodIn_of _ (by decide +kernel)) ggX1_sounds_X1_isKey
set_option maxRecDepth 20000 in
theorem ggX1_sounds_X1_isFine : GoodIn wsX1_sounds wsX1_isFine := goodIn_r _ [15, 16, 42, 43, 44, 45, 46, 47, 48, 49, 50, 51, 52, 53, 54, 55, 56, 57] (by decide +kernel) (by decide +kernel)
set_option maxRecDepth 20000 in
theorem gX1_sounds_X1_isFine : GoodIn wsX1_sounds (wsV RX1 69 RX1 yX1_isFine wsX1_isFine) := goodIn_app (goodIn_of _ (by decide +kernel)) ggX1_sounds_X1_isFine
set_option maxRecDepth 20000 in
theorem ggX1_sounds_X1_finds : GoodIn wsX1_sounds wsX1_finds := goodIn_r _ [20, 21, 22, 23, 24, 25, 26, 1, 27, 28, 29, 4, 30, 31, 32, 33, 34, 35, 36, 37, 38, 39, 40, 41, 42, 43, 44, 45, 46, 47, 48, 49, 50, 51, 52, 53, 54, 55, 56, 57] (by decide +kernel) (by decide +kernel)
set_option maxRecDepth 20000 in
theorem gX1_sounds_X1_finds : GoodIn wsX1_sounds (wsV RX1 106 RX1 yX1_finds wsX1_finds) := goodIn_app (goodIn_of _ (by decide +kernel)) ggX1_sounds_X1_finds
set_option maxRecDepth 20000 in
theorem ggX1_sounds_X1_has : GoodIn wsX1_sounds wsX1_has := goodIn_r _ [36] (by decide +kernel) (by decide +kernel)
set_option maxRecDepth 20000 in
theorem gX1_sounds_X1_has : GoodIn wsX1_sounds (va_wsS RX1 61 yX1_has wsX1_has) := goodIn_app (goodIn_of _ (by decide +kernel)) ggX1_sounds_X1_has
theorem dX1_sounds_0 : decode cX1_sounds 0 = .ok (.aload_n 0, 1) := by decide +kernel
theorem dX1_sounds_1 : decode cX1_sounds 1 = .ok (.iload_n 1, 1) := by decide +kernel
theorem dX1_sounds_2 : decode cX1_sounds 2 = .ok (.invokestatic 65, 3) := by decide +kernel
theorem dX1_sounds_5 : decode cX1_sounds 5 = .ok (.ifCond .eq 14, 3) := by decide +kernel
theorem dX1_sounds_8 : decode cX1_sounds 8 = .ok (.iload_n 2, 1) := by decide +kernel
theorem dX1_sounds_9 : decode cX1_sounds 9 = .ok (.invokestatic 92, 3) := by decide +kernel
theorem dX1_sounds_12 : decode cX1_sounds 12 = .ok (.ifCond .eq 7, 3) := by decide +kernel
theorem dX1_sounds_15 : decode cX1_sounds 15 = .ok (.iconst 0, 1) := by decide +kernel
theorem dX1_sounds_16 : decode cX1_sounds 16 = .ok (.goto 4, 3) := by decide +kernel
theorem dX1_sounds_19 : decode cX1_sounds 19 = .ok (.iconst 1, 1) := by decide +kernel
theorem dX1_sounds_20 : decode cX1_sounds 20 = .ok (.invokevirtual 69, 3) := by decide +kernel
theorem dX1_sounds_23 : decode cX1_sounds 23 = .ok (.ifCond .ne 5, 3) := by decide +kernel
theorem dX1_sounds_26 : decode cX1_sounds 26 = .ok (.iconst 0, 1) := by decide +kernel
theorem dX1_sounds_27 : decode cX1_sounds 27 = .ok (.ireturn, 1) := by decide +kernel
theorem dX1_sounds_28 : decode cX1_sounds 28 = .ok (.aload_n 0, 1) := by decide +kernel
theorem dX1_sounds_29 : decode cX1_sounds 29 = .ok (.invokevirtual 106, 3) := by decide +kernel
theorem dX1_sounds_32 : decode cX1_sounds 32 = .ok (.istore_n 3, 1) := by decide +kernel
theorem dX1_sounds_33 : decode cX1_sounds 33 = .ok (.aload_n 0, 1) := by decide +kernel
theorem dX1_sounds_34 : decode cX1_sounds 34 = .ok (.getfield 51, 3) := by decide +kernel
theorem dX1_sounds_37 : decode cX1_sounds 37 = .ok (.iload_n 1, 1) := by decide +kernel
theorem dX1_sounds_38 : decode cX1_sounds 38 = .ok (.laload, 1) := by decide +kernel
theorem dX1_sounds_39 : decode cX1_sounds 39 = .ok (.iload_n 2, 1) := by decide +kernel
theorem dX1_sounds_40 : decode cX1_sounds 40 = .ok (.invokestatic 61, 3) := by decide +kernel
theorem dX1_sounds_43 : decode cX1_sounds 43 = .ok (.ireturn, 1) := by decide +kernel
set_option maxRecDepth 20000 in
theorem ggX1_need_X1_finds : GoodIn wsX1_need wsX1_finds := goodIn_r _ [6, 7, 8, 9, 10, 11, 12, 13, 14, 15, 16, 5, 17, 18, 19, 20, 21, 22, 23, 24, 25, 26, 27, 28, 29, 30, 31, 32, 33, 34, 35, 36, 37, 38, 39, 40, 41, 42, 43, 44] (by decide +kernel) (by decide +kernel)
set_option maxRecDepth 20000 in
theorem gX1_need_X1_finds : GoodIn wsX1_need (wsV RX1 106 RX1 yX1_finds wsX1_finds) := goodIn_app (goodIn_of _ (by decide +kernel)) ggX1_need_X1_finds
theorem dX1_need_0 : decode cX1_need 0 = .ok (.aload_n 0, 1) := by decide +kernel
theorem dX1_need_1 : decode cX1_need 1 = .ok (.iconst 0, 1) := by decide +kernel
theorem dX1_need_2 : decode cX1_need 2 = .ok (.putfield 54, 3) := by decide +kernel
theorem dX1_need_5 : decode cX1_need 5 = .ok (.aload_n 0, 1) := by decide +kernel
theorem dX1_need_6 : decode cX1_need 6 = .ok (.invokevirtual 106, 3) := by decide +kernel
theorem dX1_need_9 : decode cX1_need 9 = .ok (.ireturn, 1) := by decide +kernel
set_option maxRecDepth 20000 in
theorem ggX1_sagStep_X1_finds : GoodIn wsX1_sagStep wsX1_finds := goodIn_r _ [6, 7, 8, 9, 10, 11, 12, 13, 14, 15, 16, 5, 17, 18, 19, 20, 21, 22, 23, 24, 25, 26, 27, 28, 34, 35, 36, 37, 38, 39, 40, 41, 42, 43, 44, 45, 46, 47, 48, 49] (by decide +kernel) (by decide +kernel)
set_option maxRecDepth 20000 in
theorem gX1_sagStep_X1_finds : GoodIn wsX1_sagStep (wsV RX1 106 RX1 yX1_finds wsX1_finds) := goodIn_app (goodIn_of _ (by decide +kernel)) ggX1_sagStep_X1_finds
set_option maxRecDepth 20000 in
theorem ggX1_sagStep_X1_stepOf : GoodIn wsX1_sagStep wsX1_stepOf := goodIn_r _ [32, 33, 34, 35, 36, 37, 38, 39, 40, 41, 42, 43, 44, 45, 46, 47, 48, 49] (by decide +kernel) (by decide +kernel)
set_option maxRecDepth 20000 in
theorem gX1_sagStep_X1_stepOf : GoodIn wsX1_sagStep (wsV RX1 113 RX1 yX1_stepOf wsX1_stepOf) := goodIn_app (goodIn_of _ (by decide +kernel)) ggX1_sagStep_X1_stepOf
theorem dX1_sagStep_0 : decode cX1_sagStep 0 = .ok (.aload_n 0, 1) := by decide +kernel
theorem dX1_sagStep_1 : decode cX1_sagStep 1 = .ok (.iconst 0, 1) := by decide +kernel
theorem dX1_sagStep_2 : decode cX1_sagStep 2 = .ok (.putfield 54, 3) := by decide +kernel
theorem dX1_sagStep_5 : decode cX1_sagStep 5 = .ok (.aload_n 0, 1) := by decide +kernel
theorem dX1_sagStep_6 : decode cX1_sagStep 6 = .ok (.aload_n 0, 1) := by decide +kernel
theorem dX1_sagStep_7 : decode cX1_sagStep 7 = .ok (.invokevirtual 106, 3) := by decide +kernel
theorem dX1_sagStep_10 : decode cX1_sagStep 10 = .ok (.invokevirtual 113, 3) := by decide +kernel
theorem dX1_sagStep_13 : decode cX1_sagStep 13 = .ok (.ireturn, 1) := by decide +kernel
set_option maxRecDepth 20000 in
theorem ggX1_pitch_X1_isRank : GoodIn wsX1_pitch wsX1_isRank := goodIn_r _ [5, 6, 7, 4, 8] (by decide +kernel) (by decide +kernel)
set_option maxRecDepth 20000 in
theorem gX1_pitch_X1_isRank : GoodIn wsX1_pitch (va_wsS RX1 65 yX1_isRank wsX1_isRank) := goodIn_app (goodIn_of _ (by decide +kernel)) ggX1_pitch_X1_isRank
set_option maxRecDepth 20000 in
theorem ggX1_pitch_X1_isKey : GoodIn wsX1_pitch wsX1_isKey := goodIn_r _ [11, 6, 7, 4, 8] (by decide +kernel) (by decide +kernel)
set_option maxRecDepth 20000 in
theorem gX1_pitch_X1_isKey : GoodIn wsX1_pitch (va_wsS RX1 92 yX1_isKey wsX1_isKey) := goodIn_app (goodIn_of _ (by decide +kernel)) ggX1_pitch_X1_isKey
set_option maxRecDepth 20000 in
theorem ggX1_pitch_X1_finds : GoodIn wsX1_pitch wsX1_finds := goodIn_r _ [15, 16, 17, 18, 19, 20, 21, 1, 22, 23, 24, 4, 25, 26, 27, 28, 29, 30, 31, 32, 33, 34, 35, 36, 55, 56, 57, 58, 59, 60, 61, 62, 63, 64, 65, 66, 67, 68, 69, 70] (by decide +kernel) (by decide +kernel)
set_option maxRecDepth 20000 in
theorem gX1_pitch_X1_finds : GoodIn wsX1_pitch (wsV RX1 106 RX1 yX1_finds wsX1_finds) := goodIn_app (goodIn_of _ (by decide +kernel)) ggX1_pitch_X1_finds
set_option maxRecDepth 20000 in
theorem ggX1_pitch_X1_has : GoodIn wsX1_pitch wsX1_has := goodIn_r _ [31] (by decide +kernel) (by decide +kernel)
set_option maxRecDepth 20000 in
theorem gX1_pitch_X1_has : GoodIn wsX1_pitch (va_wsS RX1 61 yX1_has wsX1_has) := goodIn_app (goodIn_of _ (by decide +kernel)) ggX1_pitch_X1_has
set_option maxRecDepth 20000 in
theorem ggX1_pitch_X1_isFine : GoodIn wsX1_pitch wsX1_isFine := goodIn_r _ [40, 41, 55, 56, 57, 58, 59, 60, 61, 62, 63, 64, 65, 66, 67, 68, 69, 70] (by decide +kernel) (by decide +kernel)
set_option maxRecDepth 20000 in
theorem gX1_pitch_X1_isFine : GoodIn wsX1_pitch (wsV RX1 69 RX1 yX1_isFine wsX1_isFine) := goodIn_app (goodIn_of _ (by decide +kernel)) ggX1_pitch_X1_isFine
set_option maxRecDepth 20000 in
theorem ggX1_pitch_X1_stepOf : GoodIn wsX1_pitch wsX1_stepOf := goodIn_r _ [45, 46, 55, 56, 57, 58, 59, 60, 61, 62, 63, 64, 65, 66, 67, 68, 69, 70] (by decide +kernel) (by decide +kernel)
set_option maxRecDepth 20000 in
theorem gX1_pitch_X1_stepOf : GoodIn wsX1_pitch (wsV RX1 113 RX1 yX1_stepOf wsX1_stepOf) := goodIn_app (goodIn_of _ (by decide +kernel)) ggX1_pitch_X1_stepOf
set_option maxRecDepth 20000 in
theorem ggX1_pitch_X1_pitchOf : GoodIn wsX1_pitch wsX1_pitchOf := goodIn_r _ [50, 51, 52, 53, 54, 55, 56, 57, 58, 59, 60, 61, 62, 63, 64, 65, 66, 67, 68, 69, 70] (by decide +kernel) (by decide +kernel)
set_option maxRecDepth 20000 in
theorem gX1_pitch_X1_pitchOf : GoodIn wsX1_pitch (wsV RX1 117 RX1 yX1_pitchOf wsX1_pitchOf) := goodIn_app (goodIn_of _ (by decide +kernel)) ggX1_pitch_X1_pitchOf
theorem dX1_pitch_0 : decode cX1_pitch 0 = .ok (.iload_n 1, 1) := by decide +kernel
theorem dX1_pitch_1 : decode cX1_pitch 1 = .ok (.invokestatic 65, 3) := by decide +kernel
theorem dX1_pitch_4 : decode cX1_pitch 4 = .ok (.ifCond .eq 14, 3) := by decide +kernel
theorem dX1_pitch_7 : decode cX1_pitch 7 = .ok (.iload_n 2, 1) := by decide +kernel
theorem dX1_pitch_8 : decode cX1_pitch 8 = .ok (.invokestatic 92, 3) := by decide +kernel
theorem dX1_pitch_11 : decode cX1_pitch 11 = .ok (.ifCond .eq 7, 3) := by decide +kernel
theorem dX1_pitch_14 : decode cX1_pitch 14 = .ok (.iconst 1, 1) := by decide +kernel
theorem dX1_pitch_15 : decode cX1_pitch 15 = .ok (.goto 4, 3) := by decide +kernel
theorem dX1_pitch_18 : decode cX1_pitch 18 = .ok (.iconst 0, 1) := by decide +kernel
theorem dX1_pitch_19 : decode cX1_pitch 19 = .ok (.istore_n 3, 1) := by decide +kernel
theorem dX1_pitch_20 : decode cX1_pitch 20 = .ok (.aload_n 0, 1) := by decide +kernel
theorem dX1_pitch_21 : decode cX1_pitch 21 = .ok (.invokevirtual 106, 3) := by decide +kernel
theorem dX1_pitch_24 : decode cX1_pitch 24 = .ok (.istore 4, 2) := by decide +kernel
theorem dX1_pitch_26 : decode cX1_pitch 26 = .ok (.aload_n 0, 1) := by decide +kernel
theorem dX1_pitch_27 : decode cX1_pitch 27 = .ok (.iload_n 3, 1) := by decide +kernel
theorem dX1_pitch_28 : decode cX1_pitch 28 = .ok (.ifCond .ne 7, 3) := by decide +kernel
theorem dX1_pitch_31 : decode cX1_pitch 31 = .ok (.iconst 1, 1) := by decide +kernel
theorem dX1_pitch_32 : decode cX1_pitch 32 = .ok (.goto 21, 3) := by decide +kernel
theorem dX1_pitch_35 : decode cX1_pitch 35 = .ok (.aload_n 0, 1) := by decide +kernel
theorem dX1_pitch_36 : decode cX1_pitch 36 = .ok (.getfield 51, 3) := by decide +kernel
theorem dX1_pitch_39 : decode cX1_pitch 39 = .ok (.iload_n 1, 1) := by decide +kernel
theorem dX1_pitch_40 : decode cX1_pitch 40 = .ok (.laload, 1) := by decide +kernel
theorem dX1_pitch_41 : decode cX1_pitch 41 = .ok (.iload_n 2, 1) := by decide +kernel
theorem dX1_pitch_42 : decode cX1_pitch 42 = .ok (.invokestatic 61, 3) := by decide +kernel
theorem dX1_pitch_45 : decode cX1_pitch 45 = .ok (.ifCond .ne 7, 3) := by decide +kernel
theorem dX1_pitch_48 : decode cX1_pitch 48 = .ok (.iconst 2, 1) := by decide +kernel
theorem dX1_pitch_49 : decode cX1_pitch 49 = .ok (.goto 4, 3) := by decide +kernel
theorem dX1_pitch_52 : decode cX1_pitch 52 = .ok (.iconst 0, 1) := by decide +kernel
theorem dX1_pitch_53 : decode cX1_pitch 53 = .ok (.invokevirtual 69, 3) := by decide +kernel
theorem dX1_pitch_56 : decode cX1_pitch 56 = .ok (.ifCond .eq 18, 3) := by decide +kernel
theorem dX1_pitch_59 : decode cX1_pitch 59 = .ok (.aload_n 0, 1) := by decide +kernel
theorem dX1_pitch_60 : decode cX1_pitch 60 = .ok (.iload_n 1, 1) := by decide +kernel
theorem dX1_pitch_61 : decode cX1_pitch 61 = .ok (.iload_n 2, 1) := by decide +kernel
theorem dX1_pitch_62 : decode cX1_pitch 62 = .ok (.aload_n 0, 1) := by decide +kernel
theorem dX1_pitch_63 : decode cX1_pitch 63 = .ok (.iload 4, 2) := by decide +kernel
theorem dX1_pitch_65 : decode cX1_pitch 65 = .ok (.invokevirtual 113, 3) := by decide +kernel
theorem dX1_pitch_68 : decode cX1_pitch 68 = .ok (.invokevirtual 117, 3) := by decide +kernel
theorem dX1_pitch_71 : decode cX1_pitch 71 = .ok (.goto 4, 3) := by decide +kernel
theorem dX1_pitch_74 : decode cX1_pitch 74 = .ok (.iconst 0, 1) := by decide +kernel
theorem dX1_pitch_75 : decode cX1_pitch 75 = .ok (.ireturn, 1) := by decide +kernel
set_option maxRecDepth 20000 in
theorem ggX1_lowest_X1_finds : GoodIn wsX1_lowest wsX1_finds := goodIn_r _ [7, 8, 9, 10, 11, 12, 13, 2, 14, 15, 16, 6, 17, 18, 19, 20, 21, 22, 23, 24, 25, 26, 27, 28, 42, 43, 44, 45, 46, 47, 48, 49, 50, 51, 52, 53, 54, 55, 56, 57] (by decide +kernel) (by decide +kernel)
set_option maxRecDepth 20000 in
theorem gX1_lowest_X1_finds : GoodIn wsX1_lowest (wsV RX1 106 RX1 yX1_finds wsX1_finds) := goodIn_app (goodIn_of _ (by decide +kernel)) ggX1_lowest_X1_finds
set_option maxRecDepth 20000 in
theorem ggX1_lowest_X1_stepOf : GoodIn wsX1_lowest wsX1_stepOf := goodIn_r _ [32, 33, 42, 43, 44, 45, 46, 47, 48, 49, 50, 51, 52, 53, 54, 55, 56, 57] (by decide +kernel) (by decide +kernel)
set_option maxRecDepth 20000 in
theorem gX1_lowest_X1_stepOf : GoodIn wsX1_lowest (wsV RX1 113 RX1 yX1_stepOf wsX1_stepOf) := goodIn_app (goodIn_of _ (by decide +kernel)) ggX1_lowest_X1_stepOf
set_option maxRecDepth 20000 in
theorem ggX1_lowest_X1_has : GoodIn wsX1_lowest wsX1_has := goodIn_r _ [23] (by decide +kernel) (by decide +kernel)
set_option maxRecDepth 20000 in
theorem gX1_lowest_X1_has : GoodIn wsX1_lowest (va_wsS RX1 61 yX1_has wsX1_has) := goodIn_app (goodIn_of _ (by decide +kernel)) ggX1_lowest_X1_has
set_option maxRecDepth 20000 in
theorem ggX1_lowest_X1_pitchOf : GoodIn wsX1_lowest wsX1_pitchOf := goodIn_r _ [37, 38, 39, 40, 41, 42, 43, 44, 45, 46, 47, 48, 49, 50, 51, 52, 53, 54, 55, 56, 57] (by decide +kernel) (by decide +kernel)
set_option maxRecDepth 20000 in
theorem gX1_lowest_X1_pitchOf : GoodIn wsX1_lowest (wsV RX1 117 RX1 yX1_pitchOf wsX1_pitchOf) := goodIn_app (goodIn_of _ (by decide +kernel)) ggX1_lowest_X1_pitchOf
theorem dX1_lowest_0 : decode cX1_lowest 0 = .ok (.aload_n 0, 1) := by decide +kernel
theorem dX1_lowest_1 : decode cX1_lowest 1 = .ok (.iconst 0, 1) := by decide +kernel
theorem dX1_lowest_2 : decode cX1_lowest 2 = .ok (.putfield 54, 3) := by decide +kernel
theorem dX1_lowest_5 : decode cX1_lowest 5 = .ok (.aload_n 0, 1) := by decide +kernel
theorem dX1_lowest_6 : decode cX1_lowest 6 = .ok (.aload_n 0, 1) := by decide +kernel
theorem dX1_lowest_7 : decode cX1_lowest 7 = .ok (.invokevirtual 106, 3) := by decide +kernel
theorem dX1_lowest_10 : decode cX1_lowest 10 = .ok (.invokevirtual 113, 3) := by decide +kernel
theorem dX1_lowest_13 : decode cX1_lowest 13 = .ok (.istore_n 1, 1) := by decide +kernel
theorem dX1_lowest_14 : decode cX1_lowest 14 = .ok (.iconst 1, 1) := by decide +kernel
theorem dX1_lowest_15 : decode cX1_lowest 15 = .ok (.istore_n 2, 1) := by decide +kernel
theorem dX1_lowest_16 : decode cX1_lowest 16 = .ok (.iconst 0, 1) := by decide +kernel
theorem dX1_lowest_17 : decode cX1_lowest 17 = .ok (.istore_n 3, 1) := by decide +kernel
theorem dX1_lowest_18 : decode cX1_lowest 18 = .ok (.iconst 0, 1) := by decide +kernel
theorem dX1_lowest_19 : decode cX1_lowest 19 = .ok (.istore 4, 2) := by decide +kernel
theorem dX1_lowest_21 : decode cX1_lowest 21 = .ok (.iload 4, 2) := by decide +kernel
theorem dX1_lowest_23 : decode cX1_lowest 23 = .ok (.sipush 366, 3) := by decide +kernel
theorem dX1_lowest_26 : decode cX1_lowest 26 = .ok (.if_icmp .ge 66, 3) := by decide +kernel
theorem dX1_lowest_29 : decode cX1_lowest 29 = .ok (.aload_n 0, 1) := by decide +kernel
theorem dX1_lowest_30 : decode cX1_lowest 30 = .ok (.getfield 51, 3) := by decide +kernel
theorem dX1_lowest_33 : decode cX1_lowest 33 = .ok (.iload 4, 2) := by decide +kernel
theorem dX1_lowest_35 : decode cX1_lowest 35 = .ok (.bipush 61, 2) := by decide +kernel
theorem dX1_lowest_37 : decode cX1_lowest 37 = .ok (.idiv, 1) := by decide +kernel
theorem dX1_lowest_38 : decode cX1_lowest 38 = .ok (.laload, 1) := by decide +kernel
theorem dX1_lowest_39 : decode cX1_lowest 39 = .ok (.iload 4, 2) := by decide +kernel
theorem dX1_lowest_41 : decode cX1_lowest 41 = .ok (.bipush 61, 2) := by decide +kernel
theorem dX1_lowest_43 : decode cX1_lowest 43 = .ok (.irem, 1) := by decide +kernel
theorem dX1_lowest_44 : decode cX1_lowest 44 = .ok (.invokestatic 61, 3) := by decide +kernel
theorem dX1_lowest_47 : decode cX1_lowest 47 = .ok (.ifCond .eq 39, 3) := by decide +kernel
theorem dX1_lowest_50 : decode cX1_lowest 50 = .ok (.aload_n 0, 1) := by decide +kernel
theorem dX1_lowest_51 : decode cX1_lowest 51 = .ok (.iload 4, 2) := by decide +kernel
theorem dX1_lowest_53 : decode cX1_lowest 53 = .ok (.bipush 61, 2) := by decide +kernel
theorem dX1_lowest_55 : decode cX1_lowest 55 = .ok (.idiv, 1) := by decide +kernel
theorem dX1_lowest_56 : decode cX1_lowest 56 = .ok (.iload 4, 2) := by decide +kernel
theorem dX1_lowest_58 : decode cX1_lowest 58 = .ok (.bipush 61, 2) := by decide +kernel
theorem dX1_lowest_60 : decode cX1_lowest 60 = .ok (.irem, 1) := by decide +kernel
theorem dX1_lowest_61 : decode cX1_lowest 61 = .ok (.iload_n 1, 1) := by decide +kernel
theorem dX1_lowest_62 : decode cX1_lowest 62 = .ok (.invokevirtual 117, 3) := by decide +kernel
theorem dX1_lowest_65 : decode cX1_lowest 65 = .ok (.istore 5, 2) := by decide +kernel
theorem dX1_lowest_67 : decode cX1_lowest 67 = .ok (.iload_n 2, 1) := by decide +kernel
theorem dX1_lowest_68 : decode cX1_lowest 68 = .ok (.ifCond .ne 9, 3) := by decide +kernel
theorem dX1_lowest_71 : decode cX1_lowest 71 = .ok (.iload 5, 2) := by decide +kernel
theorem dX1_lowest_73 : decode cX1_lowest 73 = .ok (.iload_n 3, 1) := by decide +kernel
theorem dX1_lowest_74 : decode cX1_lowest 74 = .ok (.if_icmp .ge 8, 3) := by decide +kernel
theorem dX1_lowest_77 : decode cX1_lowest 77 = .ok (.iload 5, 2) := by decide +kernel
theorem dX1_lowest_79 : decode cX1_lowest 79 = .ok (.goto 4, 3) := by decide +kernel
theorem dX1_lowest_82 : decode cX1_lowest 82 = .ok (.iload_n 3, 1) := by decide +kernel
theorem dX1_lowest_83 : decode cX1_lowest 83 = .ok (.istore_n 3, 1) := by decide +kernel
theorem dX1_lowest_84 : decode cX1_lowest 84 = .ok (.iconst 0, 1) := by decide +kernel
theorem dX1_lowest_85 : decode cX1_lowest 85 = .ok (.istore_n 2, 1) := by decide +kernel
theorem dX1_lowest_86 : decode cX1_lowest 86 = .ok (.iinc 4 1, 3) := by decide +kernel
theorem dX1_lowest_89 : decode cX1_lowest 89 = .ok (.goto (-68), 3) := by decide +kernel
theorem dX1_lowest_92 : decode cX1_lowest 92 = .ok (.iload_n 3, 1) := by decide +kernel
theorem dX1_lowest_93 : decode cX1_lowest 93 = .ok (.ireturn, 1) := by decide +kernel
set_option maxRecDepth 20000 in
theorem ggX1_wear_X1_isRank : GoodIn wsX1_wear wsX1_isRank := goodIn_r _ [5, 6, 7, 4, 8] (by decide +kernel) (by decide +kernel)
set_option maxRecDepth 20000 in
theorem gX1_wear_X1_isRank : GoodIn wsX1_wear (va_wsS RX1 65 yX1_isRank wsX1_isRank) := goodIn_app (goodIn_of _ (by decide +kernel)) ggX1_wear_X1_isRank
set_option maxRecDepth 20000 in
theorem ggX1_wear_X1_isKey : GoodIn wsX1_wear wsX1_isKey := goodIn_r _ [11, 6, 7, 4, 8] (by decide +kernel) (by decide +kernel)
set_option maxRecDepth 20000 in
theorem gX1_wear_X1_isKey : GoodIn wsX1_wear (va_wsS RX1 92 yX1_isKey wsX1_isKey) := goodIn_app (goodIn_of _ (by decide +kernel)) ggX1_wear_X1_isKey
set_option maxRecDepth 20000 in
theorem ggX1_wear_X1_isFine : GoodIn wsX1_wear wsX1_isFine := goodIn_r _ [15, 16, 17, 18, 19, 20, 21, 22, 23, 24, 25, 26, 27, 28, 29, 30, 31, 32] (by decide +kernel) (by decide +kernel)
set_option maxRecDepth 20000 in
theorem gX1_wear_X1_isFine : GoodIn wsX1_wear (wsV RX1 69 RX1 yX1_isFine wsX1_isFine) := goodIn_app (goodIn_of _ (by decide +kernel)) ggX1_wear_X1_isFine
theorem dX1_wear_0 : decode cX1_wear 0 = .ok (.aload_n 0, 1) := by decide +kernel
theorem dX1_wear_1 : decode cX1_wear 1 = .ok (.iload_n 1, 1) := by decide +kernel
theorem dX1_wear_2 : decode cX1_wear 2 = .ok (.invokestatic 65, 3) := by decide +kernel
theorem dX1_wear_5 : decode cX1_wear 5 = .ok (.ifCond .eq 14, 3) := by decide +kernel
theorem dX1_wear_8 : decode cX1_wear 8 = .ok (.iload_n 2, 1) := by decide +kernel
theorem dX1_wear_9 : decode cX1_wear 9 = .ok (.invokestatic 92, 3) := by decide +kernel
theorem dX1_wear_12 : decode cX1_wear 12 = .ok (.ifCond .eq 7, 3) := by decide +kernel
theorem dX1_wear_15 : decode cX1_wear 15 = .ok (.iconst 0, 1) := by decide +kernel
theorem dX1_wear_16 : decode cX1_wear 16 = .ok (.goto 4, 3) := by decide +kernel
theorem dX1_wear_19 : decode cX1_wear 19 = .ok (.iconst 1, 1) := by decide +kernel
theorem dX1_wear_20 : decode cX1_wear 20 = .ok (.invokevirtual 69, 3) := by decide +kernel
theorem dX1_wear_23 : decode cX1_wear 23 = .ok (.ifCond .eq 17, 3) := by decide +kernel
theorem dX1_wear_26 : decode cX1_wear 26 = .ok (.aload_n 0, 1) := by decide +kernel
theorem dX1_wear_27 : decode cX1_wear 27 = .ok (.getfield 45, 3) := by decide +kernel
theorem dX1_wear_30 : decode cX1_wear 30 = .ok (.bipush 61, 2) := by decide +kernel
theorem dX1_wear_32 : decode cX1_wear 32 = .ok (.iload_n 1, 1) := by decide +kernel
theorem dX1_wear_33 : decode cX1_wear 33 = .ok (.imul, 1) := by decide +kernel
theorem dX1_wear_34 : decode cX1_wear 34 = .ok (.iload_n 2, 1) := by decide +kernel
theorem dX1_wear_35 : decode cX1_wear 35 = .ok (.iadd, 1) := by decide +kernel
theorem dX1_wear_36 : decode cX1_wear 36 = .ok (.iaload, 1) := by decide +kernel
theorem dX1_wear_37 : decode cX1_wear 37 = .ok (.goto 4, 3) := by decide +kernel
theorem dX1_wear_40 : decode cX1_wear 40 = .ok (.iconst 0, 1) := by decide +kernel
theorem dX1_wear_41 : decode cX1_wear 41 = .ok (.ireturn, 1) := by decide +kernel
set_option maxRecDepth 20000 in
theorem ggX1_more_X1_isManual : GoodIn wsX1_more wsX1_isManual := goodIn_r _ [6, 7, 8, 5, 9] (by decide +kernel) (by decide +kernel)
set_option maxRecDepth 20000 in
theorem gX1_more_X1_isManual : GoodIn wsX1_more (va_wsS RX1 72 yX1_isManual wsX1_isManual) := goodIn_app (goodIn_of _ (by decide +kernel)) ggX1_more_X1_isManual
set_option maxRecDepth 20000 in
theorem ggX1_more_X1_isKey : GoodIn wsX1_more wsX1_isKey := goodIn_r _ [12, 7, 8, 5, 9] (by decide +kernel) (by decide +kernel)
set_option maxRecDepth 20000 in
theorem gX1_more_X1_isKey : GoodIn wsX1_more (va_wsS RX1 92 yX1_isKey wsX1_isKey) := goodIn_app (goodIn_of _ (by decide +kernel)) ggX1_more_X1_isKey
set_option maxRecDepth 20000 in
theorem ggX1_more_X1_isFine : GoodIn wsX1_more wsX1_isFine := goodIn_r _ [16, 17, 42, 43, 44, 45, 46, 47, 48, 49, 50, 51, 52, 53, 54, 55, 56, 57] (by decide +kernel) (by decide +kernel)
set_option maxRecDepth 20000 in
theorem gX1_more_X1_isFine : GoodIn wsX1_more (wsV RX1 69 RX1 yX1_isFine wsX1_isFine) := goodIn_app (goodIn_of _ (by decide +kernel)) ggX1_more_X1_isFine
set_option maxRecDepth 20000 in
theorem ggX1_more_X1_has : GoodIn wsX1_more wsX1_has := goodIn_r _ [20] (by decide +kernel) (by decide +kernel)
set_option maxRecDepth 20000 in
theorem gX1_more_X1_has : GoodIn wsX1_more (va_wsS RX1 61 yX1_has wsX1_has) := goodIn_app (goodIn_of _ (by decide +kernel)) ggX1_more_X1_has
set_option maxRecDepth 20000 in
theorem ggX1_more_X1_finds : GoodIn wsX1_more wsX1_finds := goodIn_r _ [24, 25, 26, 27, 28, 29, 2, 30, 31, 32, 33, 5, 34, 1, 35, 36, 18, 19, 20, 37, 38, 39, 40, 41, 42, 43, 44, 45, 46, 47, 48, 49, 50, 51, 52, 53, 54, 55, 56, 57] (by decide +kernel) (by decide +kernel)
set_option maxRecDepth 20000 in
theorem gX1_more_X1_finds : GoodIn wsX1_more (wsV RX1 106 RX1 yX1_finds wsX1_finds) := goodIn_app (goodIn_of _ (by decide +kernel)) ggX1_more_X1_finds
theorem dX1_more_0 : decode cX1_more 0 = .ok (.aload_n 0, 1) := by decide +kernel
theorem dX1_more_1 : decode cX1_more 1 = .ok (.iload_n 1, 1) := by decide +kernel
theorem dX1_more_2 : decode cX1_more 2 = .ok (.invokestatic 72, 3) := by decide +kernel
theorem dX1_more_5 : decode cX1_more 5 = .ok (.ifCond .eq 14, 3) := by decide +kernel
theorem dX1_more_8 : decode cX1_more 8 = .ok (.iload_n 2, 1) := by decide +kernel
theorem dX1_more_9 : decode cX1_more 9 = .ok (.invokestatic 92, 3) := by decide +kernel
theorem dX1_more_12 : decode cX1_more 12 = .ok (.ifCond .eq 7, 3) := by decide +kernel
theorem dX1_more_15 : decode cX1_more 15 = .ok (.iconst 0, 1) := by decide +kernel
theorem dX1_more_16 : decode cX1_more 16 = .ok (.goto 4, 3) := by decide +kernel
theorem dX1_more_19 : decode cX1_more 19 = .ok (.iconst 1, 1) := by decide +kernel
theorem dX1_more_20 : decode cX1_more 20 = .ok (.invokevirtual 69, 3) := by decide +kernel
theorem dX1_more_23 : decode cX1_more 23 = .ok (.ifCond .eq 16, 3) := by decide +kernel
theorem dX1_more_26 : decode cX1_more 26 = .ok (.aload_n 0, 1) := by decide +kernel
theorem dX1_more_27 : decode cX1_more 27 = .ok (.getfield 41, 3) := by decide +kernel
theorem dX1_more_30 : decode cX1_more 30 = .ok (.iload_n 1, 1) := by decide +kernel
theorem dX1_more_31 : decode cX1_more 31 = .ok (.laload, 1) := by decide +kernel
theorem dX1_more_32 : decode cX1_more 32 = .ok (.iload_n 2, 1) := by decide +kernel
theorem dX1_more_33 : decode cX1_more 33 = .ok (.invokestatic 61, 3) := by decide +kernel
theorem dX1_more_36 : decode cX1_more 36 = .ok (.ifCond .eq 5, 3) := by decide +kernel
theorem dX1_more_39 : decode cX1_more 39 = .ok (.iconst 0, 1) := by decide +kernel
theorem dX1_more_40 : decode cX1_more 40 = .ok (.ireturn, 1) := by decide +kernel
theorem dX1_more_41 : decode cX1_more 41 = .ok (.aload_n 0, 1) := by decide +kernel
theorem dX1_more_42 : decode cX1_more 42 = .ok (.invokevirtual 106, 3) := by decide +kernel
theorem dX1_more_45 : decode cX1_more 45 = .ok (.istore_n 3, 1) := by decide +kernel
theorem dX1_more_46 : decode cX1_more 46 = .ok (.aload_n 0, 1) := by decide +kernel
theorem dX1_more_47 : decode cX1_more 47 = .ok (.getfield 41, 3) := by decide +kernel
theorem dX1_more_50 : decode cX1_more 50 = .ok (.iload_n 1, 1) := by decide +kernel
theorem dX1_more_51 : decode cX1_more 51 = .ok (.dup2, 1) := by decide +kernel
theorem dX1_more_52 : decode cX1_more 52 = .ok (.laload, 1) := by decide +kernel
theorem dX1_more_53 : decode cX1_more 53 = .ok (.lconst 1, 1) := by decide +kernel
theorem dX1_more_54 : decode cX1_more 54 = .ok (.iload_n 2, 1) := by decide +kernel
theorem dX1_more_55 : decode cX1_more 55 = .ok (.lshl, 1) := by decide +kernel
theorem dX1_more_56 : decode cX1_more 56 = .ok (.lor, 1) := by decide +kernel
theorem dX1_more_57 : decode cX1_more 57 = .ok (.lastore, 1) := by decide +kernel
theorem dX1_more_58 : decode cX1_more 58 = .ok (.aload_n 0, 1) := by decide +kernel
theorem dX1_more_59 : decode cX1_more 59 = .ok (.invokevirtual 106, 3) := by decide +kernel
theorem dX1_more_62 : decode cX1_more 62 = .ok (.istore 4, 2) := by decide +kernel
theorem dX1_more_64 : decode cX1_more 64 = .ok (.aload_n 0, 1) := by decide +kernel
theorem dX1_more_65 : decode cX1_more 65 = .ok (.getfield 41, 3) := by decide +kernel
theorem dX1_more_68 : decode cX1_more 68 = .ok (.iload_n 1, 1) := by decide +kernel
theorem dX1_more_69 : decode cX1_more 69 = .ok (.dup2, 1) := by decide +kernel
theorem dX1_more_70 : decode cX1_more 70 = .ok (.laload, 1) := by decide +kernel
theorem dX1_more_71 : decode cX1_more 71 = .ok (.lconst 1, 1) := by decide +kernel
theorem dX1_more_72 : decode cX1_more 72 = .ok (.iload_n 2, 1) := by decide +kernel
theorem dX1_more_73 : decode cX1_more 73 = .ok (.lshl, 1) := by decide +kernel
theorem dX1_more_74 : decode cX1_more 74 = .ok (.ldc2_w 95, 3) := by decide +kernel
theorem dX1_more_77 : decode cX1_more 77 = .ok (.lxor, 1) := by decide +kernel
theorem dX1_more_78 : decode cX1_more 78 = .ok (.land, 1) := by decide +kernel
theorem dX1_more_79 : decode cX1_more 79 = .ok (.lastore, 1) := by decide +kernel
theorem dX1_more_80 : decode cX1_more 80 = .ok (.iload 4, 2) := by decide +kernel
theorem dX1_more_82 : decode cX1_more 82 = .ok (.iload_n 3, 1) := by decide +kernel
theorem dX1_more_83 : decode cX1_more 83 = .ok (.isub, 1) := by decide +kernel
theorem dX1_more_84 : decode cX1_more 84 = .ok (.ireturn, 1) := by decide +kernel
