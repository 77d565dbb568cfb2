theorem dX0_init_0 : decode cX0_init 0 = .ok (.aload_n 0, 1) := by decide +kernel
theorem dX0_init_1 : decode cX0_init 1 = .ok (.invokespecial 3, 3) := by decide +kernel
theorem dX0_init_4 : decode cX0_init 4 = .ok (.aload_n 0, 1) := by decide +kernel
theorem dX0_init_5 : decode cX0_init 5 = .ok (.bipush 6, 2) := by decide +kernel
theorem dX0_init_7 : decode cX0_init 7 = .ok (.newarray .int, 2) := by decide +kernel
theorem dX0_init_9 : decode cX0_init 9 = .ok (.putfield 9, 3) := by decide +kernel
theorem dX0_init_12 : decode cX0_init 12 = .ok (.aload_n 0, 1) := by decide +kernel
theorem dX0_init_13 : decode cX0_init 13 = .ok (.bipush 6, 2) := by decide +kernel
theorem dX0_init_15 : decode cX0_init 15 = .ok (.newarray .int, 2) := by decide +kernel
theorem dX0_init_17 : decode cX0_init 17 = .ok (.putfield 13, 3) := by decide +kernel
theorem dX0_init_20 : decode cX0_init 20 = .ok (.aload_n 0, 1) := by decide +kernel
theorem dX0_init_21 : decode cX0_init 21 = .ok (.bipush 6, 2) := by decide +kernel
theorem dX0_init_23 : decode cX0_init 23 = .ok (.newarray .int, 2) := by decide +kernel
theorem dX0_init_25 : decode cX0_init 25 = .ok (.putfield 16, 3) := by decide +kernel
theorem dX0_init_28 : decode cX0_init 28 = .ok (.aload_n 0, 1) := by decide +kernel
theorem dX0_init_29 : decode cX0_init 29 = .ok (.bipush 6, 2) := by decide +kernel
theorem dX0_init_31 : decode cX0_init 31 = .ok (.bipush 61, 2) := by decide +kernel
theorem dX0_init_33 : decode cX0_init 33 = .ok (.multianewarray 19 2, 4) := by decide +kernel
theorem dX0_init_37 : decode cX0_init 37 = .ok (.putfield 21, 3) := by decide +kernel
theorem dX0_init_40 : decode cX0_init 40 = .ok (.aload_n 0, 1) := by decide +kernel
theorem dX0_init_41 : decode cX0_init 41 = .ok (.bipush 12, 2) := by decide +kernel
theorem dX0_init_43 : decode cX0_init 43 = .ok (.newarray .int, 2) := by decide +kernel
theorem dX0_init_45 : decode cX0_init 45 = .ok (.putfield 24, 3) := by decide +kernel
theorem dX0_init_48 : decode cX0_init 48 = .ok (.aload_n 0, 1) := by decide +kernel
theorem dX0_init_49 : decode cX0_init 49 = .ok (.bipush 12, 2) := by decide +kernel
theorem dX0_init_51 : decode cX0_init 51 = .ok (.newarray .int, 2) := by decide +kernel
theorem dX0_init_53 : decode cX0_init 53 = .ok (.putfield 27, 3) := by decide +kernel
theorem dX0_init_56 : decode cX0_init 56 = .ok (.aload_n 0, 1) := by decide +kernel
theorem dX0_init_57 : decode cX0_init 57 = .ok (.bipush 8, 2) := by decide +kernel
theorem dX0_init_59 : decode cX0_init 59 = .ok (.newarray .int, 2) := by decide +kernel
theorem dX0_init_61 : decode cX0_init 61 = .ok (.putfield 30, 3) := by decide +kernel
theorem dX0_init_64 : decode cX0_init 64 = .ok (.aload_n 0, 1) := by decide +kernel
theorem dX0_init_65 : decode cX0_init 65 = .ok (.iconst 3, 1) := by decide +kernel
theorem dX0_init_66 : decode cX0_init 66 = .ok (.iconst 3, 1) := by decide +kernel
theorem dX0_init_67 : decode cX0_init 67 = .ok (.multianewarray 19 2, 4) := by decide +kernel
theorem dX0_init_71 : decode cX0_init 71 = .ok (.putfield 33, 3) := by decide +kernel
theorem dX0_init_74 : decode cX0_init 74 = .ok (.aload_n 0, 1) := by decide +kernel
theorem dX0_init_75 : decode cX0_init 75 = .ok (.iconst 3, 1) := by decide +kernel
theorem dX0_init_76 : decode cX0_init 76 = .ok (.newarray .long, 2) := by decide +kernel
theorem dX0_init_78 : decode cX0_init 78 = .ok (.putfield 36, 3) := by decide +kernel
theorem dX0_init_81 : decode cX0_init 81 = .ok (.aload_n 0, 1) := by decide +kernel
theorem dX0_init_82 : decode cX0_init 82 = .ok (.bipush 11, 2) := by decide +kernel
theorem dX0_init_84 : decode cX0_init 84 = .ok (.newarray .int, 2) := by decide +kernel
theorem dX0_init_86 : decode cX0_init 86 = .ok (.putfield 40, 3) := by decide +kernel
theorem dX0_init_89 : decode cX0_init 89 = .ok (.aload_n 0, 1) := by decide +kernel
theorem dX0_init_90 : decode cX0_init 90 = .ok (.bipush 12, 2) := by decide +kernel
theorem dX0_init_92 : decode cX0_init 92 = .ok (.newarray .int, 2) := by decide +kernel
theorem dX0_init_94 : decode cX0_init 94 = .ok (.putfield 43, 3) := by decide +kernel
theorem dX0_init_97 : decode cX0_init 97 = .ok (.aload_n 0, 1) := by decide +kernel
theorem dX0_init_98 : decode cX0_init 98 = .ok (.iconst 3, 1) := by decide +kernel
theorem dX0_init_99 : decode cX0_init 99 = .ok (.newarray .long, 2) := by decide +kernel
theorem dX0_init_101 : decode cX0_init 101 = .ok (.putfield 46, 3) := by decide +kernel
theorem dX0_init_104 : decode cX0_init 104 = .ok (.aload_n 0, 1) := by decide +kernel
theorem dX0_init_105 : decode cX0_init 105 = .ok (.bipush 6, 2) := by decide +kernel
theorem dX0_init_107 : decode cX0_init 107 = .ok (.newarray .long, 2) := by decide +kernel
theorem dX0_init_109 : decode cX0_init 109 = .ok (.putfield 49, 3) := by decide +kernel
theorem dX0_init_112 : decode cX0_init 112 = .ok (.iconst 0, 1) := by decide +kernel
theorem dX0_init_113 : decode cX0_init 113 = .ok (.istore_n 1, 1) := by decide +kernel
theorem dX0_init_114 : decode cX0_init 114 = .ok (.iload_n 1, 1) := by decide +kernel
theorem dX0_init_115 : decode cX0_init 115 = .ok (.bipush 6, 2) := by decide +kernel
theorem dX0_init_117 : decode cX0_init 117 = .ok (.if_icmp .ge 27, 3) := by decide +kernel
theorem dX0_init_120 : decode cX0_init 120 = .ok (.aload_n 0, 1) := by decide +kernel
theorem dX0_init_121 : decode cX0_init 121 = .ok (.getfield 9, 3) := by decide +kernel
theorem dX0_init_124 : decode cX0_init 124 = .ok (.iload_n 1, 1) := by decide +kernel
theorem dX0_init_125 : decode cX0_init 125 = .ok (.getstatic 52, 3) := by decide +kernel
theorem dX0_init_128 : decode cX0_init 128 = .ok (.iconst 1, 1) := by decide +kernel
theorem dX0_init_129 : decode cX0_init 129 = .ok (.iaload, 1) := by decide +kernel
theorem dX0_init_130 : decode cX0_init 130 = .ok (.iastore, 1) := by decide +kernel
theorem dX0_init_131 : decode cX0_init 131 = .ok (.aload_n 0, 1) := by decide +kernel
theorem dX0_init_132 : decode cX0_init 132 = .ok (.getfield 13, 3) := by decide +kernel
theorem dX0_init_135 : decode cX0_init 135 = .ok (.iload_n 1, 1) := by decide +kernel
theorem dX0_init_136 : decode cX0_init 136 = .ok (.iconst 2, 1) := by decide +kernel
theorem dX0_init_137 : decode cX0_init 137 = .ok (.iastore, 1) := by decide +kernel
theorem dX0_init_138 : decode cX0_init 138 = .ok (.iinc 1 1, 3) := by decide +kernel
theorem dX0_init_141 : decode cX0_init 141 = .ok (.goto (-27), 3) := by decide +kernel
theorem dX0_init_144 : decode cX0_init 144 = .ok (.iconst 0, 1) := by decide +kernel
theorem dX0_init_145 : decode cX0_init 145 = .ok (.istore_n 1, 1) := by decide +kernel
theorem dX0_init_146 : decode cX0_init 146 = .ok (.iload_n 1, 1) := by decide +kernel
theorem dX0_init_147 : decode cX0_init 147 = .ok (.bipush 12, 2) := by decide +kernel
theorem dX0_init_149 : decode cX0_init 149 = .ok (.if_icmp .ge 27, 3) := by decide +kernel
theorem dX0_init_152 : decode cX0_init 152 = .ok (.aload_n 0, 1) := by decide +kernel
theorem dX0_init_153 : decode cX0_init 153 = .ok (.getfield 24, 3) := by decide +kernel
theorem dX0_init_156 : decode cX0_init 156 = .ok (.iload_n 1, 1) := by decide +kernel
theorem dX0_init_157 : decode cX0_init 157 = .ok (.iload_n 1, 1) := by decide +kernel
theorem dX0_init_158 : decode cX0_init 158 = .ok (.iconst 3, 1) := by decide +kernel
theorem dX0_init_159 : decode cX0_init 159 = .ok (.irem, 1) := by decide +kernel
theorem dX0_init_160 : decode cX0_init 160 = .ok (.iastore, 1) := by decide +kernel
theorem dX0_init_161 : decode cX0_init 161 = .ok (.aload_n 0, 1) := by decide +kernel
theorem dX0_init_162 : decode cX0_init 162 = .ok (.getfield 27, 3) := by decide +kernel
theorem dX0_init_165 : decode cX0_init 165 = .ok (.iload_n 1, 1) := by decide +kernel
theorem dX0_init_166 : decode cX0_init 166 = .ok (.iload_n 1, 1) := by decide +kernel
theorem dX0_init_167 : decode cX0_init 167 = .ok (.iconst 2, 1) := by decide +kernel
theorem dX0_init_168 : decode cX0_init 168 = .ok (.idiv, 1) := by decide +kernel
theorem dX0_init_169 : decode cX0_init 169 = .ok (.iastore, 1) := by decide +kernel
theorem dX0_init_170 : decode cX0_init 170 = .ok (.iinc 1 1, 3) := by decide +kernel
theorem dX0_init_173 : decode cX0_init 173 = .ok (.goto (-27), 3) := by decide +kernel
theorem dX0_init_176 : decode cX0_init 176 = .ok (.iconst 0, 1) := by decide +kernel
theorem dX0_init_177 : decode cX0_init 177 = .ok (.istore_n 1, 1) := by decide +kernel
theorem dX0_init_178 : decode cX0_init 178 = .ok (.iload_n 1, 1) := by decide +kernel
theorem dX0_init_179 : decode cX0_init 179 = .ok (.iconst 3, 1) := by decide +kernel
theorem dX0_init_180 : decode cX0_init 180 = .ok (.if_icmp .ge 31, 3) := by decide +kernel
theorem dX0_init_183 : decode cX0_init 183 = .ok (.iconst 0, 1) := by decide +kernel
theorem dX0_init_184 : decode cX0_init 184 = .ok (.istore_n 2, 1) := by decide +kernel
theorem dX0_init_185 : decode cX0_init 185 = .ok (.iload_n 2, 1) := by decide +kernel
theorem dX0_init_186 : decode cX0_init 186 = .ok (.iconst 3, 1) := by decide +kernel
theorem dX0_init_187 : decode cX0_init 187 = .ok (.if_icmp .ge 18, 3) := by decide +kernel
theorem dX0_init_190 : decode cX0_init 190 = .ok (.aload_n 0, 1) := by decide +kernel
theorem dX0_init_191 : decode cX0_init 191 = .ok (.getfield 33, 3) := by decide +kernel
theorem dX0_init_194 : decode cX0_init 194 = .ok (.iload_n 1, 1) := by decide +kernel
theorem dX0_init_195 : decode cX0_init 195 = .ok (.aaload, 1) := by decide +kernel
theorem dX0_init_196 : decode cX0_init 196 = .ok (.iload_n 2, 1) := by decide +kernel
theorem dX0_init_197 : decode cX0_init 197 = .ok (.iconst 1, 1) := by decide +kernel
theorem dX0_init_198 : decode cX0_init 198 = .ok (.iastore, 1) := by decide +kernel
theorem dX0_init_199 : decode cX0_init 199 = .ok (.iinc 2 1, 3) := by decide +kernel
theorem dX0_init_202 : decode cX0_init 202 = .ok (.goto (-17), 3) := by decide +kernel
theorem dX0_init_205 : decode cX0_init 205 = .ok (.iinc 1 1, 3) := by decide +kernel
theorem dX0_init_208 : decode cX0_init 208 = .ok (.goto (-30), 3) := by decide +kernel
theorem dX0_init_211 : decode cX0_init 211 = .ok (.iconst 1, 1) := by decide +kernel
theorem dX0_init_212 : decode cX0_init 212 = .ok (.istore_n 1, 1) := by decide +kernel
theorem dX0_init_213 : decode cX0_init 213 = .ok (.iload_n 1, 1) := by decide +kernel
theorem dX0_init_214 : decode cX0_init 214 = .ok (.bipush 10, 2) := by decide +kernel
theorem dX0_init_216 : decode cX0_init 216 = .ok (.if_icmp .gt 18, 3) := by decide +kernel
theorem dX0_init_219 : decode cX0_init 219 = .ok (.aload_n 0, 1) := by decide +kernel
theorem dX0_init_220 : decode cX0_init 220 = .ok (.getfield 40, 3) := by decide +kernel
theorem dX0_init_223 : decode cX0_init 223 = .ok (.iload_n 1, 1) := by decide +kernel
theorem dX0_init_224 : decode cX0_init 224 = .ok (.iconst 5, 1) := by decide +kernel
theorem dX0_init_225 : decode cX0_init 225 = .ok (.iload_n 1, 1) := by decide +kernel
theorem dX0_init_226 : decode cX0_init 226 = .ok (.imul, 1) := by decide +kernel
theorem dX0_init_227 : decode cX0_init 227 = .ok (.iastore, 1) := by decide +kernel
theorem dX0_init_228 : decode cX0_init 228 = .ok (.iinc 1 1, 3) := by decide +kernel
theorem dX0_init_231 : decode cX0_init 231 = .ok (.goto (-18), 3) := by decide +kernel
theorem dX0_init_234 : decode cX0_init 234 = .ok (.aload_n 0, 1) := by decide +kernel
theorem dX0_init_235 : decode cX0_init 235 = .ok (.bipush 100, 2) := by decide +kernel
theorem dX0_init_237 : decode cX0_init 237 = .ok (.putfield 55, 3) := by decide +kernel
theorem dX0_init_240 : decode cX0_init 240 = .ok (.return_, 1) := by decide +kernel
set_option maxRecDepth 20000 in
theorem ggX0_setRank_X0_checkRank : GoodIn wsX0_setRank wsX0_checkRank := goodIn_ca (goodIn_r _ [8, 9, 10, 7, 11, 12, 13] (by decide +kernel) (by decide +kernel)) (goodIn_sub (fun _ h => List.mem_cons_of_mem _ (List.mem_append_right _ h)) (by decide +kernel))
set_option maxRecDepth 20000 in
theorem gX0_setRank_X0_checkRank : GoodIn wsX0_setRank (va_wsS RX0 59 yX0_checkRank wsX0_checkRank) := goodIn_app (goodIn_of _ (by decide +kernel)) ggX0_setRank_X0_checkRank
set_option maxRecDepth 20000 in
theorem ggX0_setRank_X0_checkRange : GoodIn wsX0_setRank wsX0_checkRange := goodIn_ca (goodIn_r _ [11, 12, 13] (by decide +kernel) (by decide +kernel)) (goodIn_sub (fun _ h => List.mem_cons_of_mem _ (List.mem_append_right _ h)) (by decide +kernel))
set_option maxRecDepth 20000 in
theorem gX0_setRank_X0_checkRange : GoodIn wsX0_setRank (va_wsS RX0 63 yX0_checkRange wsX0_checkRange) := goodIn_app (goodIn_of _ (by decide +kernel)) ggX0_setRank_X0_checkRange
theorem dX0_setRank_0 : decode cX0_setRank 0 = .ok (.iload_n 1, 1) := by decide +kernel
theorem dX0_setRank_1 : decode cX0_setRank 1 = .ok (.invokestatic 59, 3) := by decide +kernel
theorem dX0_setRank_4 : decode cX0_setRank 4 = .ok (.iload_n 2, 1) := by decide +kernel
theorem dX0_setRank_5 : decode cX0_setRank 5 = .ok (.iconst 0, 1) := by decide +kernel
theorem dX0_setRank_6 : decode cX0_setRank 6 = .ok (.iconst 3, 1) := by decide +kernel
theorem dX0_setRank_7 : decode cX0_setRank 7 = .ok (.invokestatic 63, 3) := by decide +kernel
theorem dX0_setRank_10 : decode cX0_setRank 10 = .ok (.iload_n 3, 1) := by decide +kernel
theorem dX0_setRank_11 : decode cX0_setRank 11 = .ok (.iconst 1, 1) := by decide +kernel
theorem dX0_setRank_12 : decode cX0_setRank 12 = .ok (.bipush 9, 2) := by decide +kernel
theorem dX0_setRank_14 : decode cX0_setRank 14 = .ok (.invokestatic 63, 3) := by decide +kernel
theorem dX0_setRank_17 : decode cX0_setRank 17 = .ok (.iload 4, 2) := by decide +kernel
theorem dX0_setRank_19 : decode cX0_setRank 19 = .ok (.bipush (-50), 2) := by decide +kernel
theorem dX0_setRank_21 : decode cX0_setRank 21 = .ok (.bipush 50, 2) := by decide +kernel
theorem dX0_setRank_23 : decode cX0_setRank 23 = .ok (.invokestatic 63, 3) := by decide +kernel
theorem dX0_setRank_26 : decode cX0_setRank 26 = .ok (.aload_n 0, 1) := by decide +kernel
theorem dX0_setRank_27 : decode cX0_setRank 27 = .ok (.getfield 9, 3) := by decide +kernel
theorem dX0_setRank_30 : decode cX0_setRank 30 = .ok (.iload_n 1, 1) := by decide +kernel
theorem dX0_setRank_31 : decode cX0_setRank 31 = .ok (.getstatic 52, 3) := by decide +kernel
theorem dX0_setRank_34 : decode cX0_setRank 34 = .ok (.iload_n 2, 1) := by decide +kernel
theorem dX0_setRank_35 : decode cX0_setRank 35 = .ok (.iaload, 1) := by decide +kernel
theorem dX0_setRank_36 : decode cX0_setRank 36 = .ok (.iastore, 1) := by decide +kernel
theorem dX0_setRank_37 : decode cX0_setRank 37 = .ok (.aload_n 0, 1) := by decide +kernel
theorem dX0_setRank_38 : decode cX0_setRank 38 = .ok (.getfield 13, 3) := by decide +kernel
theorem dX0_setRank_41 : decode cX0_setRank 41 = .ok (.iload_n 1, 1) := by decide +kernel
theorem dX0_setRank_42 : decode cX0_setRank 42 = .ok (.iload_n 3, 1) := by decide +kernel
theorem dX0_setRank_43 : decode cX0_setRank 43 = .ok (.iastore, 1) := by decide +kernel
theorem dX0_setRank_44 : decode cX0_setRank 44 = .ok (.aload_n 0, 1) := by decide +kernel
theorem dX0_setRank_45 : decode cX0_setRank 45 = .ok (.getfield 16, 3) := by decide +kernel
theorem dX0_setRank_48 : decode cX0_setRank 48 = .ok (.iload_n 1, 1) := by decide +kernel
theorem dX0_setRank_49 : decode cX0_setRank 49 = .ok (.iload 4, 2) := by decide +kernel
theorem dX0_setRank_51 : decode cX0_setRank 51 = .ok (.iastore, 1) := by decide +kernel
theorem dX0_setRank_52 : decode cX0_setRank 52 = .ok (.return_, 1) := by decide +kernel
set_option maxRecDepth 20000 in
theorem ggX0_setStop_X0_checkStop : GoodIn wsX0_setStop wsX0_checkStop := goodIn_ca (goodIn_r _ [8, 9, 10, 7, 11, 12, 13] (by decide +kernel) (by decide +kernel)) (goodIn_sub (fun _ h => List.mem_cons_of_mem _ (List.mem_append_right _ h)) (by decide +kernel))
set_option maxRecDepth 20000 in
theorem gX0_setStop_X0_checkStop : GoodIn wsX0_setStop (va_wsS RX0 67 yX0_checkStop wsX0_checkStop) := goodIn_app (goodIn_of _ (by decide +kernel)) ggX0_setStop_X0_checkStop
set_option maxRecDepth 20000 in
theorem ggX0_setStop_X0_checkManual : GoodIn wsX0_setStop wsX0_checkManual := goodIn_ca (goodIn_r _ [16, 9, 10, 7, 11, 12, 13] (by decide +kernel) (by decide +kernel)) (goodIn_sub (fun _ h => List.mem_cons_of_mem _ (List.mem_append_right _ h)) (by decide +kernel))
set_option maxRecDepth 20000 in
theorem gX0_setStop_X0_checkManual : GoodIn wsX0_setStop (va_wsS RX0 70 yX0_checkManual wsX0_checkManual) := goodIn_app (goodIn_of _ (by decide +kernel)) ggX0_setStop_X0_checkManual
set_option maxRecDepth 20000 in
theorem ggX0_setStop_X0_checkRank : GoodIn wsX0_setStop wsX0_checkRank := goodIn_ca (goodIn_r _ [19, 9, 10, 7, 11, 12, 13] (by decide +kernel) (by decide +kernel)) (goodIn_sub (fun _ h => List.mem_cons_of_mem _ (List.mem_append_right _ h)) (by decide +kernel))
set_option maxRecDepth 20000 in
theorem gX0_setStop_X0_checkRank : GoodIn wsX0_setStop (va_wsS RX0 59 yX0_checkRank wsX0_checkRank) := goodIn_app (goodIn_of _ (by decide +kernel)) ggX0_setStop_X0_checkRank
set_option maxRecDepth 20000 in
theorem ggX0_setStop_X0_isDrawn : GoodIn wsX0_setStop wsX0_isDrawn := goodIn_r _ [23, 24, 25, 26, 27, 28, 29, 30, 31, 32, 33, 34, 35, 36, 37, 38, 39] (by decide +kernel) (by decide +kernel)
set_option maxRecDepth 20000 in
theorem gX0_setStop_X0_isDrawn : GoodIn wsX0_setStop (wsV RX0 73 RX0 yX0_isDrawn wsX0_isDrawn) := goodIn_app (goodIn_of _ (by decide +kernel)) ggX0_setStop_X0_isDrawn
theorem dX0_setStop_0 : decode cX0_setStop 0 = .ok (.iload_n 1, 1) := by decide +kernel
theorem dX0_setStop_1 : decode cX0_setStop 1 = .ok (.invokestatic 67, 3) := by decide +kernel
theorem dX0_setStop_4 : decode cX0_setStop 4 = .ok (.iload_n 2, 1) := by decide +kernel
theorem dX0_setStop_5 : decode cX0_setStop 5 = .ok (.invokestatic 70, 3) := by decide +kernel
theorem dX0_setStop_8 : decode cX0_setStop 8 = .ok (.iload_n 3, 1) := by decide +kernel
theorem dX0_setStop_9 : decode cX0_setStop 9 = .ok (.invokestatic 59, 3) := by decide +kernel
theorem dX0_setStop_12 : decode cX0_setStop 12 = .ok (.aload_n 0, 1) := by decide +kernel
theorem dX0_setStop_13 : decode cX0_setStop 13 = .ok (.iload_n 1, 1) := by decide +kernel
theorem dX0_setStop_14 : decode cX0_setStop 14 = .ok (.invokevirtual 73, 3) := by decide +kernel
theorem dX0_setStop_17 : decode cX0_setStop 17 = .ok (.ifCond .eq 13, 3) := by decide +kernel
theorem dX0_setStop_20 : decode cX0_setStop 20 = .ok (.new 77, 3) := by decide +kernel
theorem dX0_setStop_23 : decode cX0_setStop 23 = .ok (.dup, 1) := by decide +kernel
theorem dX0_setStop_24 : decode cX0_setStop 24 = .ok (.ldc 79, 2) := by decide +kernel
theorem dX0_setStop_26 : decode cX0_setStop 26 = .ok (.invokespecial 81, 3) := by decide +kernel
theorem dX0_setStop_29 : decode cX0_setStop 29 = .ok (.athrow, 1) := by decide +kernel
theorem dX0_setStop_30 : decode cX0_setStop 30 = .ok (.aload_n 0, 1) := by decide +kernel
theorem dX0_setStop_31 : decode cX0_setStop 31 = .ok (.getfield 24, 3) := by decide +kernel
theorem dX0_setStop_34 : decode cX0_setStop 34 = .ok (.iload_n 1, 1) := by decide +kernel
theorem dX0_setStop_35 : decode cX0_setStop 35 = .ok (.iload_n 2, 1) := by decide +kernel
theorem dX0_setStop_36 : decode cX0_setStop 36 = .ok (.iastore, 1) := by decide +kernel
theorem dX0_setStop_37 : decode cX0_setStop 37 = .ok (.aload_n 0, 1) := by decide +kernel
theorem dX0_setStop_38 : decode cX0_setStop 38 = .ok (.getfield 27, 3) := by decide +kernel
theorem dX0_setStop_41 : decode cX0_setStop 41 = .ok (.iload_n 1, 1) := by decide +kernel
theorem dX0_setStop_42 : decode cX0_setStop 42 = .ok (.iload_n 3, 1) := by decide +kernel
theorem dX0_setStop_43 : decode cX0_setStop 43 = .ok (.iastore, 1) := by decide +kernel
theorem dX0_setStop_44 : decode cX0_setStop 44 = .ok (.return_, 1) := by decide +kernel
set_option maxRecDepth 20000 in
theorem ggX0_couple_X0_checkManual : GoodIn wsX0_couple wsX0_checkManual := goodIn_ca (goodIn_r _ [9, 10, 11, 8, 12, 1, 2] (by decide +kernel) (by decide +kernel)) (goodIn_sub (fun _ h => List.mem_cons_of_mem _ (List.mem_append_left _ (List.mem_append_right _ h))) (by decide +kernel))
set_option maxRecDepth 20000 in
theorem gX0_couple_X0_checkManual : GoodIn wsX0_couple (va_wsS RX0 70 yX0_checkManual wsX0_checkManual) := goodIn_app (goodIn_of _ (by decide +kernel)) ggX0_couple_X0_checkManual
set_option maxRecDepth 20000 in
theorem ggX0_couple_X0_leadsTo : GoodIn wsX0_couple wsX0_leadsTo := goodIn_r _ [16, 17, 18, 19, 8, 20, 5, 25, 26, 27, 28, 29, 30, 31, 32, 33, 34, 35, 36, 37, 38, 39] (by decide +kernel) (by decide +kernel)
set_option maxRecDepth 20000 in
theorem gX0_couple_X0_leadsTo : GoodIn wsX0_couple (wsV RX0 91 RX0 yX0_leadsTo wsX0_leadsTo) := goodIn_app (goodIn_of _ (by decide +kernel)) ggX0_couple_X0_leadsTo
set_option maxRecDepth 20000 in
theorem ggX0_couple_X0_countCouplers : GoodIn wsX0_couple wsX0_countCouplers := goodIn_r _ [24, 17, 18, 19, 8, 20, 5, 25, 26, 27, 28, 29, 30, 31, 32, 33, 34, 35, 36, 37, 38, 39] (by decide +kernel) (by decide +kernel)
set_option maxRecDepth 20000 in
theorem gX0_couple_X0_countCouplers : GoodIn wsX0_couple (wsV RX0 97 RX0 yX0_countCouplers wsX0_countCouplers) := goodIn_app (goodIn_of _ (by decide +kernel)) ggX0_couple_X0_countCouplers
theorem dX0_couple_0 : decode cX0_couple 0 = .ok (.iload_n 1, 1) := by decide +kernel
theorem dX0_couple_1 : decode cX0_couple 1 = .ok (.invokestatic 70, 3) := by decide +kernel
theorem dX0_couple_4 : decode cX0_couple 4 = .ok (.iload_n 2, 1) := by decide +kernel
theorem dX0_couple_5 : decode cX0_couple 5 = .ok (.invokestatic 70, 3) := by decide +kernel
theorem dX0_couple_8 : decode cX0_couple 8 = .ok (.iload_n 1, 1) := by decide +kernel
theorem dX0_couple_9 : decode cX0_couple 9 = .ok (.iload_n 2, 1) := by decide +kernel
theorem dX0_couple_10 : decode cX0_couple 10 = .ok (.if_icmp .ne 13, 3) := by decide +kernel
theorem dX0_couple_13 : decode cX0_couple 13 = .ok (.new 84, 3) := by decide +kernel
theorem dX0_couple_16 : decode cX0_couple 16 = .ok (.dup, 1) := by decide +kernel
theorem dX0_couple_17 : decode cX0_couple 17 = .ok (.ldc 86, 2) := by decide +kernel
theorem dX0_couple_19 : decode cX0_couple 19 = .ok (.invokespecial 88, 3) := by decide +kernel
theorem dX0_couple_22 : decode cX0_couple 22 = .ok (.athrow, 1) := by decide +kernel
theorem dX0_couple_23 : decode cX0_couple 23 = .ok (.iload_n 3, 1) := by decide +kernel
theorem dX0_couple_24 : decode cX0_couple 24 = .ok (.ifCond .eq 25, 3) := by decide +kernel
theorem dX0_couple_27 : decode cX0_couple 27 = .ok (.iload_n 3, 1) := by decide +kernel
theorem dX0_couple_28 : decode cX0_couple 28 = .ok (.bipush 12, 2) := by decide +kernel
theorem dX0_couple_30 : decode cX0_couple 30 = .ok (.if_icmp .eq 19, 3) := by decide +kernel
theorem dX0_couple_33 : decode cX0_couple 33 = .ok (.iload_n 3, 1) := by decide +kernel
theorem dX0_couple_34 : decode cX0_couple 34 = .ok (.bipush (-12), 2) := by decide +kernel
theorem dX0_couple_36 : decode cX0_couple 36 = .ok (.if_icmp .eq 13, 3) := by decide +kernel
theorem dX0_couple_39 : decode cX0_couple 39 = .ok (.new 84, 3) := by decide +kernel
theorem dX0_couple_42 : decode cX0_couple 42 = .ok (.dup, 1) := by decide +kernel
theorem dX0_couple_43 : decode cX0_couple 43 = .ok (.ldc 89, 2) := by decide +kernel
theorem dX0_couple_45 : decode cX0_couple 45 = .ok (.invokespecial 88, 3) := by decide +kernel
theorem dX0_couple_48 : decode cX0_couple 48 = .ok (.athrow, 1) := by decide +kernel
theorem dX0_couple_49 : decode cX0_couple 49 = .ok (.aload_n 0, 1) := by decide +kernel
theorem dX0_couple_50 : decode cX0_couple 50 = .ok (.iload_n 2, 1) := by decide +kernel
theorem dX0_couple_51 : decode cX0_couple 51 = .ok (.iload_n 1, 1) := by decide +kernel
theorem dX0_couple_52 : decode cX0_couple 52 = .ok (.invokevirtual 91, 3) := by decide +kernel
theorem dX0_couple_55 : decode cX0_couple 55 = .ok (.ifCond .eq 13, 3) := by decide +kernel
theorem dX0_couple_58 : decode cX0_couple 58 = .ok (.new 77, 3) := by decide +kernel
theorem dX0_couple_61 : decode cX0_couple 61 = .ok (.dup, 1) := by decide +kernel
theorem dX0_couple_62 : decode cX0_couple 62 = .ok (.ldc 95, 2) := by decide +kernel
theorem dX0_couple_64 : decode cX0_couple 64 = .ok (.invokespecial 81, 3) := by decide +kernel
theorem dX0_couple_67 : decode cX0_couple 67 = .ok (.athrow, 1) := by decide +kernel
theorem dX0_couple_68 : decode cX0_couple 68 = .ok (.aload_n 0, 1) := by decide +kernel
theorem dX0_couple_69 : decode cX0_couple 69 = .ok (.getfield 33, 3) := by decide +kernel
theorem dX0_couple_72 : decode cX0_couple 72 = .ok (.iload_n 1, 1) := by decide +kernel
theorem dX0_couple_73 : decode cX0_couple 73 = .ok (.aaload, 1) := by decide +kernel
theorem dX0_couple_74 : decode cX0_couple 74 = .ok (.iload_n 2, 1) := by decide +kernel
theorem dX0_couple_75 : decode cX0_couple 75 = .ok (.iload_n 3, 1) := by decide +kernel
theorem dX0_couple_76 : decode cX0_couple 76 = .ok (.iastore, 1) := by decide +kernel
theorem dX0_couple_77 : decode cX0_couple 77 = .ok (.aload_n 0, 1) := by decide +kernel
theorem dX0_couple_78 : decode cX0_couple 78 = .ok (.invokevirtual 97, 3) := by decide +kernel
theorem dX0_couple_81 : decode cX0_couple 81 = .ok (.ireturn, 1) := by decide +kernel
set_option maxRecDepth 20000 in
theorem ggX0_uncouple_X0_checkManual : GoodIn wsX0_uncouple wsX0_checkManual := goodIn_ca (goodIn_r _ [5, 6, 7, 4, 8, 9, 10] (by decide +kernel) (by decide +kernel)) (goodIn_sub (fun _ h => List.mem_cons_of_mem _ (List.mem_append_right _ h)) (by decide +kernel))
set_option maxRecDepth 20000 in
theorem gX0_uncouple_X0_checkManual : GoodIn wsX0_uncouple (va_wsS RX0 70 yX0_checkManual wsX0_checkManual) := goodIn_app (goodIn_of _ (by decide +kernel)) ggX0_uncouple_X0_checkManual
set_option maxRecDepth 20000 in
theorem ggX0_uncouple_X0_isCoupled : GoodIn wsX0_uncouple wsX0_isCoupled := goodIn_r _ [14, 1, 15, 16, 17, 18, 19, 20, 21, 22, 23, 24, 25, 26, 27, 28, 29] (by decide +kernel) (by decide +kernel)
set_option maxRecDepth 20000 in
theorem gX0_uncouple_X0_isCoupled : GoodIn wsX0_uncouple (wsV RX0 101 RX0 yX0_isCoupled wsX0_isCoupled) := goodIn_app (goodIn_of _ (by decide +kernel)) ggX0_uncouple_X0_isCoupled
theorem dX0_uncouple_0 : decode cX0_uncouple 0 = .ok (.iload_n 1, 1) := by decide +kernel
theorem dX0_uncouple_1 : decode cX0_uncouple 1 = .ok (.invokestatic 70, 3) := by decide +kernel
theorem dX0_uncouple_4 : decode cX0_uncouple 4 = .ok (.iload_n 2, 1) := by decide +kernel
theorem dX0_uncouple_5 : decode cX0_uncouple 5 = .ok (.invokestatic 70, 3) := by decide +kernel
theorem dX0_uncouple_8 : decode cX0_uncouple 8 = .ok (.aload_n 0, 1) := by decide +kernel
theorem dX0_uncouple_9 : decode cX0_uncouple 9 = .ok (.iload_n 1, 1) := by decide +kernel
theorem dX0_uncouple_10 : decode cX0_uncouple 10 = .ok (.iload_n 2, 1) := by decide +kernel
theorem dX0_uncouple_11 : decode cX0_uncouple 11 = .ok (.invokevirtual 101, 3) := by decide +kernel
theorem dX0_uncouple_14 : decode cX0_uncouple 14 = .ok (.istore_n 3, 1) := by decide +kernel
theorem dX0_uncouple_15 : decode cX0_uncouple 15 = .ok (.aload_n 0, 1) := by decide +kernel
theorem dX0_uncouple_16 : decode cX0_uncouple 16 = .ok (.getfield 33, 3) := by decide +kernel
theorem dX0_uncouple_19 : decode cX0_uncouple 19 = .ok (.iload_n 1, 1) := by decide +kernel
theorem dX0_uncouple_20 : decode cX0_uncouple 20 = .ok (.aaload, 1) := by decide +kernel
theorem dX0_uncouple_21 : decode cX0_uncouple 21 = .ok (.iload_n 2, 1) := by decide +kernel
theorem dX0_uncouple_22 : decode cX0_uncouple 22 = .ok (.iconst 1, 1) := by decide +kernel
theorem dX0_uncouple_23 : decode cX0_uncouple 23 = .ok (.iastore, 1) := by decide +kernel
theorem dX0_uncouple_24 : decode cX0_uncouple 24 = .ok (.iload_n 3, 1) := by decide +kernel
theorem dX0_uncouple_25 : decode cX0_uncouple 25 = .ok (.ireturn, 1) := by decide +kernel
set_option maxRecDepth 20000 in
theorem ggX0_setSupply_X0_checkRange : GoodIn wsX0_setSupply wsX0_checkRange := goodIn_ca (goodIn_r _ [5, 6, 7] (by decide +kernel) (by decide +kernel)) (goodIn_sub (fun _ h => List.mem_cons_of_mem _ (List.mem_append_right _ h)) (by decide +kernel))
set_option maxRecDepth 20000 in
theorem gX0_setSupply_X0_checkRange : GoodIn wsX0_setSupply (va_wsS RX0 63 yX0_checkRange wsX0_checkRange) := goodIn_app (goodIn_of _ (by decide +kernel)) ggX0_setSupply_X0_checkRange
theorem dX0_setSupply_0 : decode cX0_setSupply 0 = .ok (.iload_n 1, 1) := by decide +kernel
theorem dX0_setSupply_1 : decode cX0_setSupply 1 = .ok (.bipush 10, 2) := by decide +kernel
theorem dX0_setSupply_3 : decode cX0_setSupply 3 = .ok (.sipush 1000, 3) := by decide +kernel
theorem dX0_setSupply_6 : decode cX0_setSupply 6 = .ok (.invokestatic 63, 3) := by decide +kernel
theorem dX0_setSupply_9 : decode cX0_setSupply 9 = .ok (.aload_n 0, 1) := by decide +kernel
theorem dX0_setSupply_10 : decode cX0_setSupply 10 = .ok (.getfield 55, 3) := by decide +kernel
theorem dX0_setSupply_13 : decode cX0_setSupply 13 = .ok (.istore_n 2, 1) := by decide +kernel
theorem dX0_setSupply_14 : decode cX0_setSupply 14 = .ok (.aload_n 0, 1) := by decide +kernel
theorem dX0_setSupply_15 : decode cX0_setSupply 15 = .ok (.iload_n 1, 1) := by decide +kernel
theorem dX0_setSupply_16 : decode cX0_setSupply 16 = .ok (.putfield 55, 3) := by decide +kernel
theorem dX0_setSupply_19 : decode cX0_setSupply 19 = .ok (.iload_n 2, 1) := by decide +kernel
theorem dX0_setSupply_20 : decode cX0_setSupply 20 = .ok (.ireturn, 1) := by decide +kernel
set_option maxRecDepth 20000 in
theorem ggX0_tune_X0_checkRange : GoodIn wsX0_tune wsX0_checkRange := goodIn_ca (goodIn_r _ [5, 6, 7] (by decide +kernel) (by decide +kernel)) (goodIn_sub (fun _ h => List.mem_cons_of_mem _ (List.mem_append_right _ h)) (by decide +kernel))
set_option maxRecDepth 20000 in
theorem gX0_tune_X0_checkRange : GoodIn wsX0_tune (va_wsS RX0 63 yX0_checkRange wsX0_checkRange) := goodIn_app (goodIn_of _ (by decide +kernel)) ggX0_tune_X0_checkRange
theorem dX0_tune_0 : decode cX0_tune 0 = .ok (.iload_n 1, 1) := by decide +kernel
theorem dX0_tune_1 : decode cX0_tune 1 = .ok (.iconst 0, 1) := by decide +kernel
theorem dX0_tune_2 : decode cX0_tune 2 = .ok (.bipush 11, 2) := by decide +kernel
theorem dX0_tune_4 : decode cX0_tune 4 = .ok (.invokestatic 63, 3) := by decide +kernel
theorem dX0_tune_7 : decode cX0_tune 7 = .ok (.iload_n 2, 1) := by decide +kernel
theorem dX0_tune_8 : decode cX0_tune 8 = .ok (.bipush (-50), 2) := by decide +kernel
theorem dX0_tune_10 : decode cX0_tune 10 = .ok (.bipush 50, 2) := by decide +kernel
theorem dX0_tune_12 : decode cX0_tune 12 = .ok (.invokestatic 63, 3) := by decide +kernel
theorem dX0_tune_15 : decode cX0_tune 15 = .ok (.aload_n 0, 1) := by decide +kernel
theorem dX0_tune_16 : decode cX0_tune 16 = .ok (.getfield 43, 3) := by decide +kernel
theorem dX0_tune_19 : decode cX0_tune 19 = .ok (.iload_n 1, 1) := by decide +kernel
theorem dX0_tune_20 : decode cX0_tune 20 = .ok (.iaload, 1) := by decide +kernel
theorem dX0_tune_21 : decode cX0_tune 21 = .ok (.istore_n 3, 1) := by decide +kernel
theorem dX0_tune_22 : decode cX0_tune 22 = .ok (.aload_n 0, 1) := by decide +kernel
theorem dX0_tune_23 : decode cX0_tune 23 = .ok (.getfield 43, 3) := by decide +kernel
theorem dX0_tune_26 : decode cX0_tune 26 = .ok (.iload_n 1, 1) := by decide +kernel
theorem dX0_tune_27 : decode cX0_tune 27 = .ok (.iload_n 2, 1) := by decide +kernel
theorem dX0_tune_28 : decode cX0_tune 28 = .ok (.iastore, 1) := by decide +kernel
theorem dX0_tune_29 : decode cX0_tune 29 = .ok (.iload_n 3, 1) := by decide +kernel
theorem dX0_tune_30 : decode cX0_tune 30 = .ok (.ireturn, 1) := by decide +kernel
set_option maxRecDepth 20000 in
theorem ggX0_draw_X0_checkStop : GoodIn wsX0_draw wsX0_checkStop := goodIn_ca (goodIn_r _ [5, 6, 7, 4, 8, 9, 10] (by decide +kernel) (by decide +kernel)) (goodIn_sub (fun _ h => List.mem_cons_of_mem _ (List.mem_append_right _ h)) (by decide +kernel))
set_option maxRecDepth 20000 in
theorem gX0_draw_X0_checkStop : GoodIn wsX0_draw (va_wsS RX0 67 yX0_checkStop wsX0_checkStop) := goodIn_app (goodIn_of _ (by decide +kernel)) ggX0_draw_X0_checkStop
set_option maxRecDepth 20000 in
theorem ggX0_draw_X0_isDrawn : GoodIn wsX0_draw wsX0_isDrawn := goodIn_r _ [14, 1, 15, 16, 17, 18, 19, 20, 21, 22, 23, 24, 25, 26, 27, 28, 29] (by decide +kernel) (by decide +kernel)
set_option maxRecDepth 20000 in
theorem gX0_draw_X0_isDrawn : GoodIn wsX0_draw (wsV RX0 73 RX0 yX0_isDrawn wsX0_isDrawn) := goodIn_app (goodIn_of _ (by decide +kernel)) ggX0_draw_X0_isDrawn
theorem dX0_draw_0 : decode cX0_draw 0 = .ok (.iload_n 1, 1) := by decide +kernel
theorem dX0_draw_1 : decode cX0_draw 1 = .ok (.invokestatic 67, 3) := by decide +kernel
theorem dX0_draw_4 : decode cX0_draw 4 = .ok (.aload_n 0, 1) := by decide +kernel
theorem dX0_draw_5 : decode cX0_draw 5 = .ok (.iload_n 1, 1) := by decide +kernel
theorem dX0_draw_6 : decode cX0_draw 6 = .ok (.invokevirtual 73, 3) := by decide +kernel
theorem dX0_draw_9 : decode cX0_draw 9 = .ok (.istore_n 3, 1) := by decide +kernel
theorem dX0_draw_10 : decode cX0_draw 10 = .ok (.iload_n 3, 1) := by decide +kernel
theorem dX0_draw_11 : decode cX0_draw 11 = .ok (.iload_n 2, 1) := by decide +kernel
theorem dX0_draw_12 : decode cX0_draw 12 = .ok (.if_icmp .eq 15, 3) := by decide +kernel
theorem dX0_draw_15 : decode cX0_draw 15 = .ok (.aload_n 0, 1) := by decide +kernel
theorem dX0_draw_16 : decode cX0_draw 16 = .ok (.dup, 1) := by decide +kernel
theorem dX0_draw_17 : decode cX0_draw 17 = .ok (.getfield 104, 3) := by decide +kernel
theorem dX0_draw_20 : decode cX0_draw 20 = .ok (.iconst 1, 1) := by decide +kernel
theorem dX0_draw_21 : decode cX0_draw 21 = .ok (.iload_n 1, 1) := by decide +kernel
theorem dX0_draw_22 : decode cX0_draw 22 = .ok (.ishl, 1) := by decide +kernel
theorem dX0_draw_23 : decode cX0_draw 23 = .ok (.ixor, 1) := by decide +kernel
theorem dX0_draw_24 : decode cX0_draw 24 = .ok (.putfield 104, 3) := by decide +kernel
theorem dX0_draw_27 : decode cX0_draw 27 = .ok (.iload_n 3, 1) := by decide +kernel
theorem dX0_draw_28 : decode cX0_draw 28 = .ok (.ireturn, 1) := by decide +kernel
set_option maxRecDepth 20000 in
theorem ggX0_keep_X0_checkRange : GoodIn wsX0_keep wsX0_checkRange := goodIn_ca (goodIn_r _ [6, 7, 8] (by decide +kernel) (by decide +kernel)) (goodIn_sub (fun _ h => List.mem_cons_of_mem _ (List.mem_append_right _ h)) (by decide +kernel))
set_option maxRecDepth 20000 in
theorem gX0_keep_X0_checkRange : GoodIn wsX0_keep (va_wsS RX0 63 yX0_checkRange wsX0_checkRange) := goodIn_app (goodIn_of _ (by decide +kernel)) ggX0_keep_X0_checkRange
set_option maxRecDepth 20000 in
theorem ggX0_keep_J6_bitCount_0f7a4 : GoodIn wsX0_keep wsJ6_bitCount_0f7a4 := goodIn_r _ [12, 13, 14, 15] (by decide +kernel) (by decide +kernel)
set_option maxRecDepth 20000 in
theorem gX0_keep_J6_bitCount_0f7a4 : GoodIn wsX0_keep (va_wsS RX0 107 yJ6_bitCount_0f7a4 wsJ6_bitCount_0f7a4) := goodIn_app (goodIn_of _ (by decide +kernel)) ggX0_keep_J6_bitCount_0f7a4
theorem dX0_keep_0 : decode cX0_keep 0 = .ok (.iload_n 1, 1) := by decide +kernel
theorem dX0_keep_1 : decode cX0_keep 1 = .ok (.iconst 0, 1) := by decide +kernel
theorem dX0_keep_2 : decode cX0_keep 2 = .ok (.bipush 7, 2) := by decide +kernel
theorem dX0_keep_4 : decode cX0_keep 4 = .ok (.invokestatic 63, 3) := by decide +kernel
theorem dX0_keep_7 : decode cX0_keep 7 = .ok (.aload_n 0, 1) := by decide +kernel
theorem dX0_keep_8 : decode cX0_keep 8 = .ok (.getfield 30, 3) := by decide +kernel
theorem dX0_keep_11 : decode cX0_keep 11 = .ok (.iload_n 1, 1) := by decide +kernel
theorem dX0_keep_12 : decode cX0_keep 12 = .ok (.aload_n 0, 1) := by decide +kernel
theorem dX0_keep_13 : decode cX0_keep 13 = .ok (.getfield 104, 3) := by decide +kernel
theorem dX0_keep_16 : decode cX0_keep 16 = .ok (.iastore, 1) := by decide +kernel
theorem dX0_keep_17 : decode cX0_keep 17 = .ok (.aload_n 0, 1) := by decide +kernel
theorem dX0_keep_18 : decode cX0_keep 18 = .ok (.getfield 104, 3) := by decide +kernel
theorem dX0_keep_21 : decode cX0_keep 21 = .ok (.invokestatic 107, 3) := by decide +kernel
theorem dX0_keep_24 : decode cX0_keep 24 = .ok (.ireturn, 1) := by decide +kernel
set_option maxRecDepth 20000 in
theorem ggX0_recall_X0_checkRange : GoodIn wsX0_recall wsX0_checkRange := goodIn_ca (goodIn_r _ [6, 7, 8] (by decide +kernel) (by decide +kernel)) (goodIn_sub (fun _ h => List.mem_cons_of_mem _ (List.mem_append_right _ h)) (by decide +kernel))
set_option maxRecDepth 20000 in
theorem gX0_recall_X0_checkRange : GoodIn wsX0_recall (va_wsS RX0 63 yX0_checkRange wsX0_checkRange) := goodIn_app (goodIn_of _ (by decide +kernel)) ggX0_recall_X0_checkRange
set_option maxRecDepth 20000 in
theorem ggX0_recall_J6_bitCount_0f7a4 : GoodIn wsX0_recall wsJ6_bitCount_0f7a4 := goodIn_r _ [12, 13, 14, 15] (by decide +kernel) (by decide +kernel)
set_option maxRecDepth 20000 in
theorem gX0_recall_J6_bitCount_0f7a4 : GoodIn wsX0_recall (va_wsS RX0 107 yJ6_bitCount_0f7a4 wsJ6_bitCount_0f7a4) := goodIn_app (goodIn_of _ (by decide +kernel)) ggX0_recall_J6_bitCount_0f7a4
theorem dX0_recall_0 : decode cX0_recall 0 = .ok (.iload_n 1, 1) := by decide +kernel
theorem dX0_recall_1 : decode cX0_recall 1 = .ok (.iconst 0, 1) := by decide +kernel
theorem dX0_recall_2 : decode cX0_recall 2 = .ok (.bipush 7, 2) := by decide +kernel
theorem dX0_recall_4 : decode cX0_recall 4 = .ok (.invokestatic 63, 3) := by decide +kernel
theorem dX0_recall_7 : decode cX0_recall 7 = .ok (.aload_n 0, 1) := by decide +kernel
theorem dX0_recall_8 : decode cX0_recall 8 = .ok (.getfield 104, 3) := by decide +kernel
theorem dX0_recall_11 : decode cX0_recall 11 = .ok (.aload_n 0, 1) := by decide +kernel
theorem dX0_recall_12 : decode cX0_recall 12 = .ok (.getfield 30, 3) := by decide +kernel
theorem dX0_recall_15 : decode cX0_recall 15 = .ok (.iload_n 1, 1) := by decide +kernel
theorem dX0_recall_16 : decode cX0_recall 16 = .ok (.iaload, 1) := by decide +kernel
theorem dX0_recall_17 : decode cX0_recall 17 = .ok (.ixor, 1) := by decide +kernel
theorem dX0_recall_18 : decode cX0_recall 18 = .ok (.istore_n 2, 1) := by decide +kernel
theorem dX0_recall_19 : decode cX0_recall 19 = .ok (.aload_n 0, 1) := by decide +kernel
theorem dX0_recall_20 : decode cX0_recall 20 = .ok (.aload_n 0, 1) := by decide +kernel
theorem dX0_recall_21 : decode cX0_recall 21 = .ok (.getfield 30, 3) := by decide +kernel
theorem dX0_recall_24 : decode cX0_recall 24 = .ok (.iload_n 1, 1) := by decide +kernel
theorem dX0_recall_25 : decode cX0_recall 25 = .ok (.iaload, 1) := by decide +kernel
theorem dX0_recall_26 : decode cX0_recall 26 = .ok (.putfield 104, 3) := by decide +kernel
theorem dX0_recall_29 : decode cX0_recall 29 = .ok (.iload_n 2, 1) := by decide +kernel
theorem dX0_recall_30 : decode cX0_recall 30 = .ok (.invokestatic 107, 3) := by decide +kernel
theorem dX0_recall_33 : decode cX0_recall 33 = .ok (.ireturn, 1) := by decide +kernel
set_option maxRecDepth 20000 in
theorem ggX0_hold_X0_checkManual : GoodIn wsX0_hold wsX0_checkManual := goodIn_ca (goodIn_r _ [5, 6, 7, 4, 8, 9, 10] (by decide +kernel) (by decide +kernel)) (goodIn_sub (fun _ h => List.mem_cons_of_mem _ (List.mem_append_right _ h)) (by decide +kernel))
set_option maxRecDepth 20000 in
theorem gX0_hold_X0_checkManual : GoodIn wsX0_hold (va_wsS RX0 70 yX0_checkManual wsX0_checkManual) := goodIn_app (goodIn_of _ (by decide +kernel)) ggX0_hold_X0_checkManual
set_option maxRecDepth 20000 in
theorem ggX0_hold_X0_checkKey : GoodIn wsX0_hold wsX0_checkKey := goodIn_ca (goodIn_r _ [13, 6, 7, 4, 8, 9, 10] (by decide +kernel) (by decide +kernel)) (goodIn_sub (fun _ h => List.mem_cons_of_mem _ (List.mem_append_right _ h)) (by decide +kernel))
set_option maxRecDepth 20000 in
theorem gX0_hold_X0_checkKey : GoodIn wsX0_hold (va_wsS RX0 113 yX0_checkKey wsX0_checkKey) := goodIn_app (goodIn_of _ (by decide +kernel)) ggX0_hold_X0_checkKey
set_option maxRecDepth 20000 in
theorem ggX0_hold_X0_hasKey : GoodIn wsX0_hold wsX0_hasKey := goodIn_r _ [16, 17, 18, 4, 19] (by decide +kernel) (by decide +kernel)
set_option maxRecDepth 20000 in
theorem gX0_hold_X0_hasKey : GoodIn wsX0_hold (va_wsS RX0 116 yX0_hasKey wsX0_hasKey) := goodIn_app (goodIn_of _ (by decide +kernel)) ggX0_hold_X0_hasKey
set_option maxRecDepth 20000 in
theorem ggX0_hold_X0_keyBit : GoodIn wsX0_hold wsX0_keyBit := goodIn_r _ [19] (by decide +kernel) (by decide +kernel)
set_option maxRecDepth 20000 in
theorem gX0_hold_X0_keyBit : GoodIn wsX0_hold (va_wsS RX0 120 yX0_keyBit wsX0_keyBit) := goodIn_app (goodIn_of _ (by decide +kernel)) ggX0_hold_X0_keyBit
theorem dX0_hold_0 : decode cX0_hold 0 = .ok (.iload_n 1, 1) := by decide +kernel
theorem dX0_hold_1 : decode cX0_hold 1 = .ok (.invokestatic 70, 3) := by decide +kernel
theorem dX0_hold_4 : decode cX0_hold 4 = .ok (.iload_n 2, 1) := by decide +kernel
theorem dX0_hold_5 : decode cX0_hold 5 = .ok (.invokestatic 113, 3) := by decide +kernel
theorem dX0_hold_8 : decode cX0_hold 8 = .ok (.aload_n 0, 1) := by decide +kernel
theorem dX0_hold_9 : decode cX0_hold 9 = .ok (.getfield 36, 3) := by decide +kernel
theorem dX0_hold_12 : decode cX0_hold 12 = .ok (.iload_n 1, 1) := by decide +kernel
theorem dX0_hold_13 : decode cX0_hold 13 = .ok (.laload, 1) := by decide +kernel
theorem dX0_hold_14 : decode cX0_hold 14 = .ok (.iload_n 2, 1) := by decide +kernel
theorem dX0_hold_15 : decode cX0_hold 15 = .ok (.invokestatic 116, 3) := by decide +kernel
theorem dX0_hold_18 : decode cX0_hold 18 = .ok (.istore 4, 2) := by decide +kernel
theorem dX0_hold_20 : decode cX0_hold 20 = .ok (.iload 4, 2) := by decide +kernel
theorem dX0_hold_22 : decode cX0_hold 22 = .ok (.iload_n 3, 1) := by decide +kernel
theorem dX0_hold_23 : decode cX0_hold 23 = .ok (.if_icmp .eq 16, 3) := by decide +kernel
theorem dX0_hold_26 : decode cX0_hold 26 = .ok (.aload_n 0, 1) := by decide +kernel
theorem dX0_hold_27 : decode cX0_hold 27 = .ok (.getfield 36, 3) := by decide +kernel
theorem dX0_hold_30 : decode cX0_hold 30 = .ok (.iload_n 1, 1) := by decide +kernel
theorem dX0_hold_31 : decode cX0_hold 31 = .ok (.dup2, 1) := by decide +kernel
theorem dX0_hold_32 : decode cX0_hold 32 = .ok (.laload, 1) := by decide +kernel
theorem dX0_hold_33 : decode cX0_hold 33 = .ok (.iload_n 2, 1) := by decide +kernel
theorem dX0_hold_34 : decode cX0_hold 34 = .ok (.invokestatic 120, 3) := by decide +kernel
theorem dX0_hold_37 : decode cX0_hold 37 = .ok (.lxor, 1) := by decide +kernel
theorem dX0_hold_38 : decode cX0_hold 38 = .ok (.lastore, 1) := by decide +kernel
theorem dX0_hold_39 : decode cX0_hold 39 = .ok (.iload 4, 2) := by decide +kernel
theorem dX0_hold_41 : decode cX0_hold 41 = .ok (.ireturn, 1) := by decide +kernel
set_option maxRecDepth 20000 in
theorem ggX0_letGo_J13_bitCount_95d88 : GoodIn wsX0_letGo wsJ13_bitCount_95d88 := goodIn_r _ [5, 6, 7, 8] (by decide +kernel) (by decide +kernel)
set_option maxRecDepth 20000 in
theorem gX0_letGo_J13_bitCount_95d88 : GoodIn wsX0_letGo (va_wsS RX0 124 yJ13_bitCount_95d88 wsJ13_bitCount_95d88) := goodIn_app (goodIn_of _ (by decide +kernel)) ggX0_letGo_J13_bitCount_95d88
theorem dX0_letGo_0 : decode cX0_letGo 0 = .ok (.iconst 0, 1) := by decide +kernel
theorem dX0_letGo_1 : decode cX0_letGo 1 = .ok (.istore_n 1, 1) := by decide +kernel
theorem dX0_letGo_2 : decode cX0_letGo 2 = .ok (.iconst 0, 1) := by decide +kernel
theorem dX0_letGo_3 : decode cX0_letGo 3 = .ok (.istore_n 2, 1) := by decide +kernel
theorem dX0_letGo_4 : decode cX0_letGo 4 = .ok (.iload_n 2, 1) := by decide +kernel
theorem dX0_letGo_5 : decode cX0_letGo 5 = .ok (.iconst 3, 1) := by decide +kernel
theorem dX0_letGo_6 : decode cX0_letGo 6 = .ok (.if_icmp .ge 28, 3) := by decide +kernel
theorem dX0_letGo_9 : decode cX0_letGo 9 = .ok (.iload_n 1, 1) := by decide +kernel
theorem dX0_letGo_10 : decode cX0_letGo 10 = .ok (.aload_n 0, 1) := by decide +kernel
theorem dX0_letGo_11 : decode cX0_letGo 11 = .ok (.getfield 36, 3) := by decide +kernel
theorem dX0_letGo_14 : decode cX0_letGo 14 = .ok (.iload_n 2, 1) := by decide +kernel
theorem dX0_letGo_15 : decode cX0_letGo 15 = .ok (.laload, 1) := by decide +kernel
theorem dX0_letGo_16 : decode cX0_letGo 16 = .ok (.invokestatic 124, 3) := by decide +kernel
theorem dX0_letGo_19 : decode cX0_letGo 19 = .ok (.iadd, 1) := by decide +kernel
theorem dX0_letGo_20 : decode cX0_letGo 20 = .ok (.istore_n 1, 1) := by decide +kernel
theorem dX0_letGo_21 : decode cX0_letGo 21 = .ok (.aload_n 0, 1) := by decide +kernel
theorem dX0_letGo_22 : decode cX0_letGo 22 = .ok (.getfield 36, 3) := by decide +kernel
theorem dX0_letGo_25 : decode cX0_letGo 25 = .ok (.iload_n 2, 1) := by decide +kernel
theorem dX0_letGo_26 : decode cX0_letGo 26 = .ok (.lconst 0, 1) := by decide +kernel
theorem dX0_letGo_27 : decode cX0_letGo 27 = .ok (.lastore, 1) := by decide +kernel
theorem dX0_letGo_28 : decode cX0_letGo 28 = .ok (.iinc 2 1, 3) := by decide +kernel
theorem dX0_letGo_31 : decode cX0_letGo 31 = .ok (.goto (-27), 3) := by decide +kernel
theorem dX0_letGo_34 : decode cX0_letGo 34 = .ok (.iload_n 1, 1) := by decide +kernel
theorem dX0_letGo_35 : decode cX0_letGo 35 = .ok (.ireturn, 1) := by decide +kernel
set_option maxRecDepth 20000 in
theorem ggX0_sound_X0_checkRange : GoodIn wsX0_sound wsX0_checkRange := goodIn_ca (goodIn_r _ [4, 5, 6] (by decide +kernel) (by decide +kernel)) (goodIn_sub (fun _ h => List.mem_cons_of_mem _ (List.mem_append_right _ h)) (by decide +kernel))
set_option maxRecDepth 20000 in
theorem gX0_sound_X0_checkRange : GoodIn wsX0_sound (va_wsS RX0 63 yX0_checkRange wsX0_checkRange) := goodIn_app (goodIn_of _ (by decide +kernel)) ggX0_sound_X0_checkRange
set_option maxRecDepth 20000 in
theorem ggX0_sound_X0_findSounding : GoodIn wsX0_sound wsX0_findSounding := goodIn_r _ [10, 11, 12, 13, 3, 14, 15, 16, 17, 18, 19, 20, 21, 22, 23, 24, 25, 26, 27, 28, 29, 30, 31, 32, 33, 34, 35, 36, 37, 38, 39, 40, 41, 42, 43, 44, 45, 46, 47, 48, 49, 50, 51, 52, 53, 54, 55, 56, 57, 58, 77, 78, 79, 80, 81, 82, 83, 84, 85, 86, 87, 88, 89, 90, 91] (by decide +kernel) (by decide +kernel)
set_option maxRecDepth 20000 in
theorem gX0_sound_X0_findSounding : GoodIn wsX0_sound (wsV RX0 129 RX0 yX0_findSounding wsX0_findSounding) := goodIn_app (goodIn_of _ (by decide +kernel)) ggX0_sound_X0_findSounding
set_option maxRecDepth 20000 in
theorem ggX0_sound_X0_wearOut : GoodIn wsX0_sound wsX0_wearOut := goodIn_r _ [62, 15, 55, 63, 64, 3, 65, 56, 57, 58, 77, 78, 79, 80, 81, 82, 83, 84, 85, 86, 87, 88, 89, 90, 91] (by decide +kernel) (by decide +kernel)
set_option maxRecDepth 20000 in
theorem gX0_sound_X0_wearOut : GoodIn wsX0_sound (wsV RX0 132 RX0 yX0_wearOut wsX0_wearOut) := goodIn_app (goodIn_of _ (by decide +kernel)) ggX0_sound_X0_wearOut
set_option maxRecDepth 20000 in
theorem ggX0_sound_X0_countSounding : GoodIn wsX0_sound wsX0_countSounding := goodIn_r _ [69, 15, 70, 71, 72, 73, 74, 75, 76, 77, 78, 79, 80, 81, 82, 83, 84, 85, 86, 87, 88, 89, 90, 91] (by decide +kernel) (by decide +kernel)
set_option maxRecDepth 20000 in
theorem gX0_sound_X0_countSounding : GoodIn wsX0_sound (wsV RX0 136 RX0 yX0_countSounding wsX0_countSounding) := goodIn_app (goodIn_of _ (by decide +kernel)) ggX0_sound_X0_countSounding
theorem dX0_sound_0 : decode cX0_sound 0 = .ok (.iload_n 1, 1) := by decide +kernel
theorem dX0_sound_1 : decode cX0_sound 1 = .ok (.iconst 1, 1) := by decide +kernel
theorem dX0_sound_2 : decode cX0_sound 2 = .ok (.bipush 50, 2) := by decide +kernel
theorem dX0_sound_4 : decode cX0_sound 4 = .ok (.invokestatic 63, 3) := by decide +kernel
theorem dX0_sound_7 : decode cX0_sound 7 = .ok (.aload_n 0, 1) := by decide +kernel
theorem dX0_sound_8 : decode cX0_sound 8 = .ok (.invokevirtual 129, 3) := by decide +kernel
theorem dX0_sound_11 : decode cX0_sound 11 = .ok (.iconst 0, 1) := by decide +kernel
theorem dX0_sound_12 : decode cX0_sound 12 = .ok (.istore_n 2, 1) := by decide +kernel
theorem dX0_sound_13 : decode cX0_sound 13 = .ok (.iload_n 2, 1) := by decide +kernel
theorem dX0_sound_14 : decode cX0_sound 14 = .ok (.bipush 6, 2) := by decide +kernel
theorem dX0_sound_16 : decode cX0_sound 16 = .ok (.if_icmp .ge 15, 3) := by decide +kernel
theorem dX0_sound_19 : decode cX0_sound 19 = .ok (.aload_n 0, 1) := by decide +kernel
theorem dX0_sound_20 : decode cX0_sound 20 = .ok (.iload_n 2, 1) := by decide +kernel
theorem dX0_sound_21 : decode cX0_sound 21 = .ok (.iload_n 1, 1) := by decide +kernel
theorem dX0_sound_22 : decode cX0_sound 22 = .ok (.invokevirtual 132, 3) := by decide +kernel
theorem dX0_sound_25 : decode cX0_sound 25 = .ok (.iinc 2 1, 3) := by decide +kernel
theorem dX0_sound_28 : decode cX0_sound 28 = .ok (.goto (-15), 3) := by decide +kernel
theorem dX0_sound_31 : decode cX0_sound 31 = .ok (.aload_n 0, 1) := by decide +kernel
theorem dX0_sound_32 : decode cX0_sound 32 = .ok (.invokevirtual 136, 3) := by decide +kernel
theorem dX0_sound_35 : decode cX0_sound 35 = .ok (.ireturn, 1) := by decide +kernel
set_option maxRecDepth 20000 in
theorem ggX0_repair_X0_checkRank : GoodIn wsX0_repair wsX0_checkRank := goodIn_ca (goodIn_r _ [5, 6, 7, 4, 8, 9, 10] (by decide +kernel) (by decide +kernel)) (goodIn_sub (fun _ h => List.mem_cons_of_mem _ (List.mem_append_right _ h)) (by decide +kernel))
set_option maxRecDepth 20000 in
theorem gX0_repair_X0_checkRank : GoodIn wsX0_repair (va_wsS RX0 59 yX0_checkRank wsX0_checkRank) := goodIn_app (goodIn_of _ (by decide +kernel)) ggX0_repair_X0_checkRank
set_option maxRecDepth 20000 in
theorem ggX0_repair_X0_mutePipes : GoodIn wsX0_repair wsX0_mutePipes := goodIn_r _ [14, 1, 15, 16, 4, 17, 25, 26, 27, 28, 29, 30, 31, 32, 33, 34, 35, 36, 37, 38, 39] (by decide +kernel) (by decide +kernel)
set_option maxRecDepth 20000 in
theorem gX0_repair_X0_mutePipes : GoodIn wsX0_repair (wsV RX0 139 RX0 yX0_mutePipes wsX0_mutePipes) := goodIn_app (goodIn_of _ (by decide +kernel)) ggX0_repair_X0_mutePipes
set_option maxRecDepth 20000 in
theorem ggX0_repair_J13_bitCount_95d88 : GoodIn wsX0_repair wsJ13_bitCount_95d88 := goodIn_r _ [21, 22, 23, 24] (by decide +kernel) (by decide +kernel)
set_option maxRecDepth 20000 in
theorem gX0_repair_J13_bitCount_95d88 : GoodIn wsX0_repair (va_wsS RX0 124 yJ13_bitCount_95d88 wsJ13_bitCount_95d88) := goodIn_app (goodIn_of _ (by decide +kernel)) ggX0_repair_J13_bitCount_95d88
theorem dX0_repair_0 : decode cX0_repair 0 = .ok (.iload_n 1, 1) := by decide +kernel
theorem dX0_repair_1 : decode cX0_repair 1 = .ok (.invokestatic 59, 3) := by decide +kernel
theorem dX0_repair_4 : decode cX0_repair 4 = .ok (.aload_n 0, 1) := by decide +kernel
theorem dX0_repair_5 : decode cX0_repair 5 = .ok (.iload_n 1, 1) := by decide +kernel
theorem dX0_repair_6 : decode cX0_repair 6 = .ok (.invokevirtual 139, 3) := by decide +kernel
theorem dX0_repair_9 : decode cX0_repair 9 = .ok (.invokestatic 124, 3) := by decide +kernel
theorem dX0_repair_12 : decode cX0_repair 12 = .ok (.istore_n 2, 1) := by decide +kernel
theorem dX0_repair_13 : decode cX0_repair 13 = .ok (.iconst 0, 1) := by decide +kernel
theorem dX0_repair_14 : decode cX0_repair 14 = .ok (.istore_n 3, 1) := by decide +kernel
theorem dX0_repair_15 : decode cX0_repair 15 = .ok (.iload_n 3, 1) := by decide +kernel
theorem dX0_repair_16 : decode cX0_repair 16 = .ok (.bipush 61, 2) := by decide +kernel
theorem dX0_repair_18 : decode cX0_repair 18 = .ok (.if_icmp .ge 18, 3) := by decide +kernel
theorem dX0_repair_21 : decode cX0_repair 21 = .ok (.aload_n 0, 1) := by decide +kernel
theorem dX0_repair_22 : decode cX0_repair 22 = .ok (.getfield 21, 3) := by decide +kernel
theorem dX0_repair_25 : decode cX0_repair 25 = .ok (.iload_n 1, 1) := by decide +kernel
theorem dX0_repair_26 : decode cX0_repair 26 = .ok (.aaload, 1) := by decide +kernel
theorem dX0_repair_27 : decode cX0_repair 27 = .ok (.iload_n 3, 1) := by decide +kernel
theorem dX0_repair_28 : decode cX0_repair 28 = .ok (.iconst 0, 1) := by decide +kernel
theorem dX0_repair_29 : decode cX0_repair 29 = .ok (.iastore, 1) := by decide +kernel
theorem dX0_repair_30 : decode cX0_repair 30 = .ok (.iinc 3 1, 3) := by decide +kernel
theorem dX0_repair_33 : decode cX0_repair 33 = .ok (.goto (-18), 3) := by decide +kernel
theorem dX0_repair_36 : decode cX0_repair 36 = .ok (.iload_n 2, 1) := by decide +kernel
theorem dX0_repair_37 : decode cX0_repair 37 = .ok (.ireturn, 1) := by decide +kernel
set_option maxRecDepth 20000 in
theorem ggX0_pipes_X0_findSounding : GoodIn wsX0_pipes wsX0_findSounding := goodIn_r _ [5, 6, 7, 8, 4, 9, 10, 11, 12, 13, 14, 15, 16, 17, 18, 19, 20, 21, 22, 23, 24, 25, 26, 27, 28, 29, 30, 31, 32, 33, 34, 35, 36, 37, 38, 39, 40, 41, 42, 43, 44, 45, 46, 47, 48, 49, 50, 51, 52, 53, 65, 66, 67, 68, 69, 70, 71, 72, 73, 74, 75, 76, 77, 78, 79] (by decide +kernel) (by decide +kernel)
set_option maxRecDepth 20000 in
theorem gX0_pipes_X0_findSounding : GoodIn wsX0_pipes (wsV RX0 129 RX0 yX0_findSounding wsX0_findSounding) := goodIn_app (goodIn_of _ (by decide +kernel)) ggX0_pipes_X0_findSounding
set_option maxRecDepth 20000 in
theorem ggX0_pipes_X0_countSounding : GoodIn wsX0_pipes wsX0_countSounding := goodIn_r _ [57, 10, 58, 59, 60, 61, 62, 63, 64, 65, 66, 67, 68, 69, 70, 71, 72, 73, 74, 75, 76, 77, 78, 79] (by decide +kernel) (by decide +kernel)
set_option maxRecDepth 20000 in
theorem gX0_pipes_X0_countSounding : GoodIn wsX0_pipes (wsV RX0 136 RX0 yX0_countSounding wsX0_countSounding) := goodIn_app (goodIn_of _ (by decide +kernel)) ggX0_pipes_X0_countSounding
theorem dX0_pipes_0 : decode cX0_pipes 0 = .ok (.aload_n 0, 1) := by decide +kernel
theorem dX0_pipes_1 : decode cX0_pipes 1 = .ok (.invokevirtual 129, 3) := by decide +kernel
theorem dX0_pipes_4 : decode cX0_pipes 4 = .ok (.aload_n 0, 1) := by decide +kernel
theorem dX0_pipes_5 : decode cX0_pipes 5 = .ok (.invokevirtual 136, 3) := by decide +kernel
theorem dX0_pipes_8 : decode cX0_pipes 8 = .ok (.ireturn, 1) := by decide +kernel
set_option maxRecDepth 20000 in
theorem ggX0_sounds_X0_checkRank : GoodIn wsX0_sounds wsX0_checkRank := goodIn_ca (goodIn_r _ [5, 6, 7, 4, 8, 9, 10] (by decide +kernel) (by decide +kernel)) (goodIn_sub (fun _ h => List.mem_cons_of_mem _ (List.mem_append_right _ h)) (by decide +kernel))
set_option maxRecDepth 20000 in
theorem gX0_sounds_X0_checkRank : GoodIn wsX0_sounds (va_wsS RX0 59 yX0_checkRank wsX0_checkRank) := goodIn_app (goodIn_of _ (by decide +kernel)) ggX0_sounds_X0_checkRank
set_option maxRecDepth 20000 in
theorem ggX0_sounds_X0_checkKey : GoodIn wsX0_sounds wsX0_checkKey := goodIn_ca (goodIn_r _ [13, 6, 7, 4, 8, 9, 10] (by decide +kernel) (by decide +kernel)) (goodIn_sub (fun _ h => List.mem_cons_of_mem _ (List.mem_append_right _ h)) (by decide +kernel))
set_option maxRecDepth 20000 in
theorem gX0_sounds_X0_checkKey : GoodIn wsX0_sounds (va_wsS RX0 113 yX0_checkKey wsX0_checkKey) := goodIn_app (goodIn_of _ (by decide +kernel)) ggX0_sounds_X0_checkKey
set_option maxRecDepth 20000 in
theorem ggX0_sounds_X0_findSounding : GoodIn wsX0_sounds wsX0_findSounding := goodIn_r _ [17, 18, 19, 20, 4, 21, 1, 22, 23, 24, 25, 26, 27, 28, 29, 30, 31, 32, 33, 34, 35, 36, 37, 38, 39, 40, 41, 42, 43, 44, 45, 46, 47, 48, 49, 50, 51, 52, 53, 54, 55, 56, 57, 58, 59, 60, 61, 62, 63, 64, 68, 69, 70, 71, 72, 73, 74, 75, 76, 77, 78, 79, 80, 81, 82] (by decide +kernel) (by decide +kernel)
set_option maxRecDepth 20000 in
theorem gX0_sounds_X0_findSounding : GoodIn wsX0_sounds (wsV RX0 129 RX0 yX0_findSounding wsX0_findSounding) := goodIn_app (goodIn_of _ (by decide +kernel)) ggX0_sounds_X0_findSounding
set_option maxRecDepth 20000 in
theorem ggX0_sounds_X0_hasKey : GoodIn wsX0_sounds wsX0_hasKey := goodIn_r _ [67, 62, 63, 4, 64] (by decide +kernel) (by decide +kernel)
set_option maxRecDepth 20000 in
theorem gX0_sounds_X0_hasKey : GoodIn wsX0_sounds (va_wsS RX0 116 yX0_hasKey wsX0_hasKey) := goodIn_app (goodIn_of _ (by decide +kernel)) ggX0_sounds_X0_hasKey
theorem dX0_sounds_0 : decode cX0_sounds 0 = .ok (.iload_n 1, 1) := by decide +kernel
theorem dX0_sounds_1 : decode cX0_sounds 1 = .ok (.invokestatic 59, 3) := by decide +kernel
theorem dX0_sounds_4 : decode cX0_sounds 4 = .ok (.iload_n 2, 1) := by decide +kernel
theorem dX0_sounds_5 : decode cX0_sounds 5 = .ok (.invokestatic 113, 3) := by decide +kernel
theorem dX0_sounds_8 : decode cX0_sounds 8 = .ok (.aload_n 0, 1) := by decide +kernel
theorem dX0_sounds_9 : decode cX0_sounds 9 = .ok (.invokevirtual 129, 3) := by decide +kernel
theorem dX0_sounds_12 : decode cX0_sounds 12 = .ok (.aload_n 0, 1) := by decide +kernel
theorem dX0_sounds_13 : decode cX0_sounds 13 = .ok (.getfield 49, 3) := by decide +kernel
theorem dX0_sounds_16 : decode cX0_sounds 16 = .ok (.iload_n 1, 1) := by decide +kernel
theorem dX0_sounds_17 : decode cX0_sounds 17 = .ok (.laload, 1) := by decide +kernel
theorem dX0_sounds_18 : decode cX0_sounds 18 = .ok (.iload_n 2, 1) := by decide +kernel
theorem dX0_sounds_19 : decode cX0_sounds 19 = .ok (.invokestatic 116, 3) := by decide +kernel
theorem dX0_sounds_22 : decode cX0_sounds 22 = .ok (.ireturn, 1) := by decide +kernel
set_option maxRecDepth 20000 in
theorem ggX0_need_X0_findSounding : GoodIn wsX0_need wsX0_findSounding := goodIn_r _ [5, 6, 7, 8, 4, 9, 10, 11, 12, 13, 14, 15, 16, 17, 18, 19, 20, 21, 22, 23, 24, 25, 26, 27, 28, 29, 30, 31, 32, 33, 34, 35, 36, 37, 38, 39, 40, 41, 42, 43, 44, 45, 46, 47, 48, 49, 50, 51, 52, 53, 62, 63, 64, 65, 66, 67, 68, 69, 70, 71, 72, 73, 74, 75, 76] (by decide +kernel) (by decide +kernel)
set_option maxRecDepth 20000 in
theorem gX0_need_X0_findSounding : GoodIn wsX0_need (wsV RX0 129 RX0 yX0_findSounding wsX0_findSounding) := goodIn_app (goodIn_of _ (by decide +kernel)) ggX0_need_X0_findSounding
set_option maxRecDepth 20000 in
theorem ggX0_need_X0_windOfSounding : GoodIn wsX0_need wsX0_windOfSounding := goodIn_r _ [57, 10, 58, 59, 60, 4, 61, 51, 52, 53, 62, 63, 64, 65, 66, 67, 68, 69, 70, 71, 72, 73, 74, 75, 76] (by decide +kernel) (by decide +kernel)
set_option maxRecDepth 20000 in
theorem gX0_need_X0_windOfSounding : GoodIn wsX0_need (wsV RX0 142 RX0 yX0_windOfSounding wsX0_windOfSounding) := goodIn_app (goodIn_of _ (by decide +kernel)) ggX0_need_X0_windOfSounding
theorem dX0_need_0 : decode cX0_need 0 = .ok (.aload_n 0, 1) := by decide +kernel
theorem dX0_need_1 : decode cX0_need 1 = .ok (.invokevirtual 129, 3) := by decide +kernel
theorem dX0_need_4 : decode cX0_need 4 = .ok (.aload_n 0, 1) := by decide +kernel
theorem dX0_need_5 : decode cX0_need 5 = .ok (.invokevirtual 142, 3) := by decide +kernel
theorem dX0_need_8 : decode cX0_need 8 = .ok (.ireturn, 1) := by decide +kernel
set_option maxRecDepth 20000 in
theorem ggX0_sagStep_X0_findSounding : GoodIn wsX0_sagStep wsX0_findSounding := goodIn_r _ [5, 6, 7, 8, 4, 9, 10, 11, 12, 13, 14, 15, 16, 17, 18, 19, 20, 21, 22, 23, 24, 25, 26, 27, 28, 29, 30, 31, 32, 33, 34, 35, 36, 37, 38, 39, 40, 41, 42, 43, 44, 45, 46, 47, 48, 49, 50, 51, 52, 53, 71, 72, 73, 74, 75, 76, 77, 78, 79, 80, 81, 82, 83, 84, 85] (by decide +kernel) (by decide +kernel)
set_option maxRecDepth 20000 in
theorem gX0_sagStep_X0_findSounding : GoodIn wsX0_sagStep (wsV RX0 129 RX0 yX0_findSounding wsX0_findSounding) := goodIn_app (goodIn_of _ (by decide +kernel)) ggX0_sagStep_X0_findSounding
set_option maxRecDepth 20000 in
theorem ggX0_sagStep_X0_windOfSounding : GoodIn wsX0_sagStep wsX0_windOfSounding := goodIn_r _ [57, 10, 58, 59, 60, 4, 61, 51, 52, 53, 71, 72, 73, 74, 75, 76, 77, 78, 79, 80, 81, 82, 83, 84, 85] (by decide +kernel) (by decide +kernel)
set_option maxRecDepth 20000 in
theorem gX0_sagStep_X0_windOfSounding : GoodIn wsX0_sagStep (wsV RX0 142 RX0 yX0_windOfSounding wsX0_windOfSounding) := goodIn_app (goodIn_of _ (by decide +kernel)) ggX0_sagStep_X0_windOfSounding
set_option maxRecDepth 20000 in
theorem ggX0_sagStep_X0_stepOfSag : GoodIn wsX0_sagStep wsX0_stepOfSag := goodIn_r _ [65, 66, 67, 68, 69, 70, 71, 72, 73, 74, 75, 76, 77, 78, 79, 80, 81, 82, 83, 84, 85] (by decide +kernel) (by decide +kernel)
set_option maxRecDepth 20000 in
theorem gX0_sagStep_X0_stepOfSag : GoodIn wsX0_sagStep (wsV RX0 145 RX0 yX0_stepOfSag wsX0_stepOfSag) := goodIn_app (goodIn_of _ (by decide +kernel)) ggX0_sagStep_X0_stepOfSag
theorem dX0_sagStep_0 : decode cX0_sagStep 0 = .ok (.aload_n 0, 1) := by decide +kernel
theorem dX0_sagStep_1 : decode cX0_sagStep 1 = .ok (.invokevirtual 129, 3) := by decide +kernel
theorem dX0_sagStep_4 : decode cX0_sagStep 4 = .ok (.aload_n 0, 1) := by decide +kernel
theorem dX0_sagStep_5 : decode cX0_sagStep 5 = .ok (.aload_n 0, 1) := by decide +kernel
theorem dX0_sagStep_6 : decode cX0_sagStep 6 = .ok (.invokevirtual 142, 3) := by decide +kernel
theorem dX0_sagStep_9 : decode cX0_sagStep 9 = .ok (.invokevirtual 145, 3) := by decide +kernel
theorem dX0_sagStep_12 : decode cX0_sagStep 12 = .ok (.ireturn, 1) := by decide +kernel
set_option maxRecDepth 20000 in
theorem ggX0_pitch_X0_checkRank : GoodIn wsX0_pitch wsX0_checkRank := goodIn_ca (goodIn_r _ [7, 8, 9, 6, 10, 11, 12] (by decide +kernel) (by decide +kernel)) (goodIn_sub (fun _ h => List.mem_cons_of_mem _ (List.mem_append_right _ h)) (by decide +kernel))
set_option maxRecDepth 20000 in
theorem gX0_pitch_X0_checkRank : GoodIn wsX0_pitch (va_wsS RX0 59 yX0_checkRank wsX0_checkRank) := goodIn_app (goodIn_of _ (by decide +kernel)) ggX0_pitch_X0_checkRank
set_option maxRecDepth 20000 in
theorem ggX0_pitch_X0_checkKey : GoodIn wsX0_pitch wsX0_checkKey := goodIn_ca (goodIn_r _ [15, 8, 9, 6, 10, 11, 12] (by decide +kernel) (by decide +kernel)) (goodIn_sub (fun _ h => List.mem_cons_of_mem _ (List.mem_append_right _ h)) (by decide +kernel))
set_option maxRecDepth 20000 in
theorem gX0_pitch_X0_checkKey : GoodIn wsX0_pitch (va_wsS RX0 113 yX0_checkKey wsX0_checkKey) := goodIn_app (goodIn_of _ (by decide +kernel)) ggX0_pitch_X0_checkKey
set_option maxRecDepth 20000 in
theorem ggX0_pitch_X0_findSounding : GoodIn wsX0_pitch wsX0_findSounding := goodIn_r _ [19, 20, 21, 22, 6, 23, 3, 24, 25, 26, 27, 28, 29, 30, 31, 32, 33, 34, 35, 36, 37, 38, 39, 40, 41, 42, 43, 44, 45, 46, 47, 48, 49, 50, 51, 52, 53, 54, 55, 56, 57, 58, 59, 60, 61, 62, 63, 64, 65, 66, 96, 97, 98, 99, 100, 101, 102, 103, 104, 105, 106, 107, 108, 109, 110] (by decide +kernel) (by decide +kernel)
set_option maxRecDepth 20000 in
theorem gX0_pitch_X0_findSounding : GoodIn wsX0_pitch (wsV RX0 129 RX0 yX0_findSounding wsX0_findSounding) := goodIn_app (goodIn_of _ (by decide +kernel)) ggX0_pitch_X0_findSounding
set_option maxRecDepth 20000 in
theorem ggX0_pitch_X0_hasKey : GoodIn wsX0_pitch wsX0_hasKey := goodIn_r _ [69, 64, 65, 6, 66] (by decide +kernel) (by decide +kernel)
set_option maxRecDepth 20000 in
theorem gX0_pitch_X0_hasKey : GoodIn wsX0_pitch (va_wsS RX0 116 yX0_hasKey wsX0_hasKey) := goodIn_app (goodIn_of _ (by decide +kernel)) ggX0_pitch_X0_hasKey
set_option maxRecDepth 20000 in
theorem ggX0_pitch_X0_pitchWithoutSag : GoodIn wsX0_pitch wsX0_pitchWithoutSag := goodIn_r _ [73, 74, 75, 76, 96, 97, 98, 99, 100, 101, 102, 103, 104, 105, 106, 107, 108, 109, 110] (by decide +kernel) (by decide +kernel)
set_option maxRecDepth 20000 in
theorem gX0_pitch_X0_pitchWithoutSag : GoodIn wsX0_pitch (wsV RX0 150 RX0 yX0_pitchWithoutSag wsX0_pitchWithoutSag) := goodIn_app (goodIn_of _ (by decide +kernel)) ggX0_pitch_X0_pitchWithoutSag
set_option maxRecDepth 20000 in
theorem ggX0_pitch_X0_fallOfSag : GoodIn wsX0_pitch wsX0_fallOfSag := goodIn_r _ [80, 81, 82, 83, 84, 6, 85, 3, 86, 67, 68, 69, 64, 65, 66, 87, 88, 89, 90, 91, 92, 93, 94, 95, 96, 97, 98, 99, 100, 101, 102, 103, 104, 105, 106, 107, 108, 109, 110] (by decide +kernel) (by decide +kernel)
set_option maxRecDepth 20000 in
theorem gX0_pitch_X0_fallOfSag : GoodIn wsX0_pitch (wsV RX0 154 RX0 yX0_fallOfSag wsX0_fallOfSag) := goodIn_app (goodIn_of _ (by decide +kernel)) ggX0_pitch_X0_fallOfSag
theorem dX0_pitch_0 : decode cX0_pitch 0 = .ok (.iload_n 1, 1) := by decide +kernel
theorem dX0_pitch_1 : decode cX0_pitch 1 = .ok (.invokestatic 59, 3) := by decide +kernel
theorem dX0_pitch_4 : decode cX0_pitch 4 = .ok (.iload_n 2, 1) := by decide +kernel
theorem dX0_pitch_5 : decode cX0_pitch 5 = .ok (.invokestatic 113, 3) := by decide +kernel
theorem dX0_pitch_8 : decode cX0_pitch 8 = .ok (.aload_n 0, 1) := by decide +kernel
theorem dX0_pitch_9 : decode cX0_pitch 9 = .ok (.invokevirtual 129, 3) := by decide +kernel
theorem dX0_pitch_12 : decode cX0_pitch 12 = .ok (.aload_n 0, 1) := by decide +kernel
theorem dX0_pitch_13 : decode cX0_pitch 13 = .ok (.getfield 49, 3) := by decide +kernel
theorem dX0_pitch_16 : decode cX0_pitch 16 = .ok (.iload_n 1, 1) := by decide +kernel
theorem dX0_pitch_17 : decode cX0_pitch 17 = .ok (.laload, 1) := by decide +kernel
theorem dX0_pitch_18 : decode cX0_pitch 18 = .ok (.iload_n 2, 1) := by decide +kernel
theorem dX0_pitch_19 : decode cX0_pitch 19 = .ok (.invokestatic 116, 3) := by decide +kernel
theorem dX0_pitch_22 : decode cX0_pitch 22 = .ok (.ifCond .ne 13, 3) := by decide +kernel
theorem dX0_pitch_25 : decode cX0_pitch 25 = .ok (.new 77, 3) := by decide +kernel
theorem dX0_pitch_28 : decode cX0_pitch 28 = .ok (.dup, 1) := by decide +kernel
theorem dX0_pitch_29 : decode cX0_pitch 29 = .ok (.ldc 148, 2) := by decide +kernel
theorem dX0_pitch_31 : decode cX0_pitch 31 = .ok (.invokespecial 81, 3) := by decide +kernel
theorem dX0_pitch_34 : decode cX0_pitch 34 = .ok (.athrow, 1) := by decide +kernel
theorem dX0_pitch_35 : decode cX0_pitch 35 = .ok (.aload_n 0, 1) := by decide +kernel
theorem dX0_pitch_36 : decode cX0_pitch 36 = .ok (.iload_n 1, 1) := by decide +kernel
theorem dX0_pitch_37 : decode cX0_pitch 37 = .ok (.iload_n 2, 1) := by decide +kernel
theorem dX0_pitch_38 : decode cX0_pitch 38 = .ok (.invokevirtual 150, 3) := by decide +kernel
theorem dX0_pitch_41 : decode cX0_pitch 41 = .ok (.aload_n 0, 1) := by decide +kernel
theorem dX0_pitch_42 : decode cX0_pitch 42 = .ok (.invokevirtual 154, 3) := by decide +kernel
theorem dX0_pitch_45 : decode cX0_pitch 45 = .ok (.isub, 1) := by decide +kernel
theorem dX0_pitch_46 : decode cX0_pitch 46 = .ok (.ireturn, 1) := by decide +kernel
set_option maxRecDepth 20000 in
theorem ggX0_lowest_X0_findSounding : GoodIn wsX0_lowest wsX0_findSounding := goodIn_r _ [10, 11, 12, 13, 9, 14, 1, 15, 16, 17, 18, 19, 20, 21, 22, 23, 24, 25, 26, 27, 28, 29, 30, 31, 32, 33, 34, 35, 36, 37, 38, 39, 40, 41, 42, 43, 44, 45, 46, 47, 48, 49, 50, 51, 52, 53, 54, 55, 56, 57, 83, 84, 85, 86, 87, 88, 89, 90, 91, 92, 93, 94, 95, 96, 97] (by decide +kernel) (by decide +kernel)
set_option maxRecDepth 20000 in
theorem gX0_lowest_X0_findSounding : GoodIn wsX0_lowest (wsV RX0 129 RX0 yX0_findSounding wsX0_findSounding) := goodIn_app (goodIn_of _ (by decide +kernel)) ggX0_lowest_X0_findSounding
set_option maxRecDepth 20000 in
theorem ggX0_lowest_X0_hasKey : GoodIn wsX0_lowest wsX0_hasKey := goodIn_r _ [60, 55, 56, 9, 57] (by decide +kernel) (by decide +kernel)
set_option maxRecDepth 20000 in
theorem gX0_lowest_X0_hasKey : GoodIn wsX0_lowest (va_wsS RX0 116 yX0_hasKey wsX0_hasKey) := goodIn_app (goodIn_of _ (by decide +kernel)) ggX0_lowest_X0_hasKey
set_option maxRecDepth 20000 in
theorem ggX0_lowest_X0_pitchWithoutSag : GoodIn wsX0_lowest wsX0_pitchWithoutSag := goodIn_r _ [64, 65, 66, 67, 83, 84, 85, 86, 87, 88, 89, 90, 91, 92, 93, 94, 95, 96, 97] (by decide +kernel) (by decide +kernel)
set_option maxRecDepth 20000 in
theorem gX0_lowest_X0_pitchWithoutSag : GoodIn wsX0_lowest (wsV RX0 150 RX0 yX0_pitchWithoutSag wsX0_pitchWithoutSag) := goodIn_app (goodIn_of _ (by decide +kernel)) ggX0_lowest_X0_pitchWithoutSag
set_option maxRecDepth 20000 in
theorem ggX0_lowest_X0_fallOfSag : GoodIn wsX0_lowest wsX0_fallOfSag := goodIn_r _ [71, 72, 73, 74, 75, 9, 76, 1, 77, 58, 59, 60, 55, 56, 57, 78, 79, 80, 81, 82, 2, 3, 4, 5, 83, 84, 85, 86, 87, 88, 89, 90, 91, 92, 93, 94, 95, 96, 97] (by decide +kernel) (by decide +kernel)
set_option maxRecDepth 20000 in
theorem gX0_lowest_X0_fallOfSag : GoodIn wsX0_lowest (wsV RX0 154 RX0 yX0_fallOfSag wsX0_fallOfSag) := goodIn_app (goodIn_of _ (by decide +kernel)) ggX0_lowest_X0_fallOfSag
theorem dX0_lowest_0 : decode cX0_lowest 0 = .ok (.aload_n 0, 1) := by decide +kernel
theorem dX0_lowest_1 : decode cX0_lowest 1 = .ok (.invokevirtual 129, 3) := by decide +kernel
theorem dX0_lowest_4 : decode cX0_lowest 4 = .ok (.iconst 0, 1) := by decide +kernel
theorem dX0_lowest_5 : decode cX0_lowest 5 = .ok (.istore_n 1, 1) := by decide +kernel
theorem dX0_lowest_6 : decode cX0_lowest 6 = .ok (.iconst 0, 1) := by decide +kernel
theorem dX0_lowest_7 : decode cX0_lowest 7 = .ok (.istore_n 2, 1) := by decide +kernel
theorem dX0_lowest_8 : decode cX0_lowest 8 = .ok (.iconst 0, 1) := by decide +kernel
theorem dX0_lowest_9 : decode cX0_lowest 9 = .ok (.istore_n 3, 1) := by decide +kernel
theorem dX0_lowest_10 : decode cX0_lowest 10 = .ok (.iload_n 3, 1) := by decide +kernel
theorem dX0_lowest_11 : decode cX0_lowest 11 = .ok (.bipush 6, 2) := by decide +kernel
theorem dX0_lowest_13 : decode cX0_lowest 13 = .ok (.if_icmp .ge 66, 3) := by decide +kernel
theorem dX0_lowest_16 : decode cX0_lowest 16 = .ok (.iconst 0, 1) := by decide +kernel
theorem dX0_lowest_17 : decode cX0_lowest 17 = .ok (.istore 4, 2) := by decide +kernel
theorem dX0_lowest_19 : decode cX0_lowest 19 = .ok (.iload 4, 2) := by decide +kernel
theorem dX0_lowest_21 : decode cX0_lowest 21 = .ok (.bipush 61, 2) := by decide +kernel
theorem dX0_lowest_23 : decode cX0_lowest 23 = .ok (.if_icmp .ge 50, 3) := by decide +kernel
theorem dX0_lowest_26 : decode cX0_lowest 26 = .ok (.aload_n 0, 1) := by decide +kernel
theorem dX0_lowest_27 : decode cX0_lowest 27 = .ok (.getfield 49, 3) := by decide +kernel
theorem dX0_lowest_30 : decode cX0_lowest 30 = .ok (.iload_n 3, 1) := by decide +kernel
theorem dX0_lowest_31 : decode cX0_lowest 31 = .ok (.laload, 1) := by decide +kernel
theorem dX0_lowest_32 : decode cX0_lowest 32 = .ok (.iload 4, 2) := by decide +kernel
theorem dX0_lowest_34 : decode cX0_lowest 34 = .ok (.invokestatic 116, 3) := by decide +kernel
theorem dX0_lowest_37 : decode cX0_lowest 37 = .ok (.ifCond .eq 30, 3) := by decide +kernel
theorem dX0_lowest_40 : decode cX0_lowest 40 = .ok (.aload_n 0, 1) := by decide +kernel
theorem dX0_lowest_41 : decode cX0_lowest 41 = .ok (.iload_n 3, 1) := by decide +kernel
theorem dX0_lowest_42 : decode cX0_lowest 42 = .ok (.iload 4, 2) := by decide +kernel
theorem dX0_lowest_44 : decode cX0_lowest 44 = .ok (.invokevirtual 150, 3) := by decide +kernel
theorem dX0_lowest_47 : decode cX0_lowest 47 = .ok (.istore 5, 2) := by decide +kernel
theorem dX0_lowest_49 : decode cX0_lowest 49 = .ok (.iload_n 1, 1) := by decide +kernel
theorem dX0_lowest_50 : decode cX0_lowest 50 = .ok (.ifCond .eq 12, 3) := by decide +kernel
theorem dX0_lowest_53 : decode cX0_lowest 53 = .ok (.iload_n 2, 1) := by decide +kernel
theorem dX0_lowest_54 : decode cX0_lowest 54 = .ok (.iload 5, 2) := by decide +kernel
theorem dX0_lowest_56 : decode cX0_lowest 56 = .ok (.invokestatic 157, 3) := by decide +kernel
theorem dX0_lowest_59 : decode cX0_lowest 59 = .ok (.goto 5, 3) := by decide +kernel
theorem dX0_lowest_62 : decode cX0_lowest 62 = .ok (.iload 5, 2) := by decide +kernel
theorem dX0_lowest_64 : decode cX0_lowest 64 = .ok (.istore_n 2, 1) := by decide +kernel
theorem dX0_lowest_65 : decode cX0_lowest 65 = .ok (.iconst 1, 1) := by decide +kernel
theorem dX0_lowest_66 : decode cX0_lowest 66 = .ok (.istore_n 1, 1) := by decide +kernel
theorem dX0_lowest_67 : decode cX0_lowest 67 = .ok (.iinc 4 1, 3) := by decide +kernel
theorem dX0_lowest_70 : decode cX0_lowest 70 = .ok (.goto (-51), 3) := by decide +kernel
theorem dX0_lowest_73 : decode cX0_lowest 73 = .ok (.iinc 3 1, 3) := by decide +kernel
theorem dX0_lowest_76 : decode cX0_lowest 76 = .ok (.goto (-66), 3) := by decide +kernel
theorem dX0_lowest_79 : decode cX0_lowest 79 = .ok (.iload_n 1, 1) := by decide +kernel
theorem dX0_lowest_80 : decode cX0_lowest 80 = .ok (.ifCond .eq 12, 3) := by decide +kernel
theorem dX0_lowest_83 : decode cX0_lowest 83 = .ok (.iload_n 2, 1) := by decide +kernel
theorem dX0_lowest_84 : decode cX0_lowest 84 = .ok (.aload_n 0, 1) := by decide +kernel
theorem dX0_lowest_85 : decode cX0_lowest 85 = .ok (.invokevirtual 154, 3) := by decide +kernel
theorem dX0_lowest_88 : decode cX0_lowest 88 = .ok (.isub, 1) := by decide +kernel
theorem dX0_lowest_89 : decode cX0_lowest 89 = .ok (.goto 4, 3) := by decide +kernel
theorem dX0_lowest_92 : decode cX0_lowest 92 = .ok (.iconst 0, 1) := by decide +kernel
theorem dX0_lowest_93 : decode cX0_lowest 93 = .ok (.ireturn, 1) := by decide +kernel
set_option maxRecDepth 20000 in
theorem ggX0_wear_X0_checkRank : GoodIn wsX0_wear wsX0_checkRank := goodIn_ca (goodIn_r _ [5, 6, 7, 4, 8, 9, 10] (by decide +kernel) (by decide +kernel)) (goodIn_sub (fun _ h => List.mem_cons_of_mem _ (List.mem_append_right _ h)) (by decide +kernel))
set_option maxRecDepth 20000 in
theorem gX0_wear_X0_checkRank : GoodIn wsX0_wear (va_wsS RX0 59 yX0_checkRank wsX0_checkRank) := goodIn_app (goodIn_of _ (by decide +kernel)) ggX0_wear_X0_checkRank
set_option maxRecDepth 20000 in
theorem ggX0_wear_X0_checkKey : GoodIn wsX0_wear wsX0_checkKey := goodIn_ca (goodIn_r _ [13, 6, 7, 4, 8, 9, 10] (by decide +kernel) (by decide +kernel)) (goodIn_sub (fun _ h => List.mem_cons_of_mem _ (List.mem_append_right _ h)) (by decide +kernel))
set_option maxRecDepth 20000 in
theorem gX0_wear_X0_checkKey : GoodIn wsX0_wear (va_wsS RX0 113 yX0_checkKey wsX0_checkKey) := goodIn_app (goodIn_of _ (by decide +kernel)) ggX0_wear_X0_checkKey
theorem dX0_wear_0 : decode cX0_wear 0 = .ok (.iload_n 1, 1) := by decide +kernel
theorem dX0_wear_1 : decode cX0_wear 1 = .ok (.invokestatic 59, 3) := by decide +kernel
theorem dX0_wear_4 : decode cX0_wear 4 = .ok (.iload_n 2, 1) := by decide +kernel
theorem dX0_wear_5 : decode cX0_wear 5 = .ok (.invokestatic 113, 3) := by decide +kernel
theorem dX0_wear_8 : decode cX0_wear 8 = .ok (.aload_n 0, 1) := by decide +kernel
theorem dX0_wear_9 : decode cX0_wear 9 = .ok (.getfield 21, 3) := by decide +kernel
theorem dX0_wear_12 : decode cX0_wear 12 = .ok (.iload_n 1, 1) := by decide +kernel
theorem dX0_wear_13 : decode cX0_wear 13 = .ok (.aaload, 1) := by decide +kernel
theorem dX0_wear_14 : decode cX0_wear 14 = .ok (.iload_n 2, 1) := by decide +kernel
theorem dX0_wear_15 : decode cX0_wear 15 = .ok (.iaload, 1) := by decide +kernel
theorem dX0_wear_16 : decode cX0_wear 16 = .ok (.ireturn, 1) := by decide +kernel
set_option maxRecDepth 20000 in
theorem ggX0_more_X0_checkManual : GoodIn wsX0_more wsX0_checkManual := goodIn_ca (goodIn_r _ [4, 5, 6, 3, 7, 8, 9] (by decide +kernel) (by decide +kernel)) (goodIn_sub (fun _ h => List.mem_cons_of_mem _ (List.mem_append_right _ h)) (by decide +kernel))
set_option maxRecDepth 20000 in
theorem gX0_more_X0_checkManual : GoodIn wsX0_more (va_wsS RX0 70 yX0_checkManual wsX0_checkManual) := goodIn_app (goodIn_of _ (by decide +kernel)) ggX0_more_X0_checkManual
set_option maxRecDepth 20000 in
theorem ggX0_more_X0_checkKey : GoodIn wsX0_more wsX0_checkKey := goodIn_ca (goodIn_r _ [12, 5, 6, 3, 7, 8, 9] (by decide +kernel) (by decide +kernel)) (goodIn_sub (fun _ h => List.mem_cons_of_mem _ (List.mem_append_right _ h)) (by decide +kernel))
set_option maxRecDepth 20000 in
theorem gX0_more_X0_checkKey : GoodIn wsX0_more (va_wsS RX0 113 yX0_checkKey wsX0_checkKey) := goodIn_app (goodIn_of _ (by decide +kernel)) ggX0_more_X0_checkKey
set_option maxRecDepth 20000 in
theorem ggX0_more_X0_findSounding : GoodIn wsX0_more wsX0_findSounding := goodIn_r _ [16, 17, 18, 19, 3, 20, 21, 22, 23, 24, 25, 26, 27, 28, 29, 30, 31, 32, 33, 34, 35, 36, 37, 38, 39, 40, 41, 42, 43, 44, 45, 46, 47, 48, 49, 50, 51, 52, 53, 54, 55, 56, 57, 58, 59, 60, 61, 62, 63, 64, 73, 74, 75, 76, 77, 78, 79, 80, 81, 82, 83, 84, 85, 86, 87] (by decide +kernel) (by decide +kernel)
set_option maxRecDepth 20000 in
theorem gX0_more_X0_findSounding : GoodIn wsX0_more (wsV RX0 129 RX0 yX0_findSounding wsX0_findSounding) := goodIn_app (goodIn_of _ (by decide +kernel)) ggX0_more_X0_findSounding
set_option maxRecDepth 20000 in
theorem ggX0_more_X0_windOfSounding : GoodIn wsX0_more wsX0_windOfSounding := goodIn_r _ [68, 21, 69, 70, 71, 3, 72, 62, 63, 64, 73, 74, 75, 76, 77, 78, 79, 80, 81, 82, 83, 84, 85, 86, 87] (by decide +kernel) (by decide +kernel)
set_option maxRecDepth 20000 in
theorem gX0_more_X0_windOfSounding : GoodIn wsX0_more (wsV RX0 142 RX0 yX0_windOfSounding wsX0_windOfSounding) := goodIn_app (goodIn_of _ (by decide +kernel)) ggX0_more_X0_windOfSounding
set_option maxRecDepth 20000 in
theorem ggX0_more_X0_keyBit : GoodIn wsX0_more wsX0_keyBit := goodIn_r _ [64] (by decide +kernel) (by decide +kernel)
set_option maxRecDepth 20000 in
theorem gX0_more_X0_keyBit : GoodIn wsX0_more (va_wsS RX0 120 yX0_keyBit wsX0_keyBit) := goodIn_app (goodIn_of _ (by decide +kernel)) ggX0_more_X0_keyBit
set_option maxRecDepth 20000 in
theorem ggX0_more_X0_findSoundingWith : GoodIn wsX0_more wsX0_findSoundingWith := goodIn_r _ [20, 21, 22, 23, 24, 25, 3, 26, 27, 28, 29, 30, 31, 32, 33, 34, 35, 36, 37, 38, 39, 40, 41, 42, 43, 44, 45, 46, 47, 48, 49, 50, 51, 52, 53, 54, 55, 56, 57, 58, 59, 60, 61, 62, 63, 64, 73, 74, 75, 76, 77, 78, 79, 80, 81, 82, 83, 84, 85, 86, 87] (by decide +kernel) (by decide +kernel)
set_option maxRecDepth 20000 in
theorem gX0_more_X0_findSoundingWith : GoodIn wsX0_more (wsV RX0 162 RX0 yX0_findSoundingWith wsX0_findSoundingWith) := goodIn_app (goodIn_of _ (by decide +kernel)) ggX0_more_X0_findSoundingWith
theorem dX0_more_0 : decode cX0_more 0 = .ok (.iload_n 1, 1) := by decide +kernel
theorem dX0_more_1 : decode cX0_more 1 = .ok (.invokestatic 70, 3) := by decide +kernel
theorem dX0_more_4 : decode cX0_more 4 = .ok (.iload_n 2, 1) := by decide +kernel
theorem dX0_more_5 : decode cX0_more 5 = .ok (.invokestatic 113, 3) := by decide +kernel
theorem dX0_more_8 : decode cX0_more 8 = .ok (.aload_n 0, 1) := by decide +kernel
theorem dX0_more_9 : decode cX0_more 9 = .ok (.invokevirtual 129, 3) := by decide +kernel
theorem dX0_more_12 : decode cX0_more 12 = .ok (.aload_n 0, 1) := by decide +kernel
theorem dX0_more_13 : decode cX0_more 13 = .ok (.invokevirtual 142, 3) := by decide +kernel
theorem dX0_more_16 : decode cX0_more 16 = .ok (.istore_n 3, 1) := by decide +kernel
theorem dX0_more_17 : decode cX0_more 17 = .ok (.aload_n 0, 1) := by decide +kernel
theorem dX0_more_18 : decode cX0_more 18 = .ok (.iload_n 1, 1) := by decide +kernel
theorem dX0_more_19 : decode cX0_more 19 = .ok (.iload_n 2, 1) := by decide +kernel
theorem dX0_more_20 : decode cX0_more 20 = .ok (.invokestatic 120, 3) := by decide +kernel
theorem dX0_more_23 : decode cX0_more 23 = .ok (.invokevirtual 162, 3) := by decide +kernel
theorem dX0_more_26 : decode cX0_more 26 = .ok (.aload_n 0, 1) := by decide +kernel
theorem dX0_more_27 : decode cX0_more 27 = .ok (.invokevirtual 142, 3) := by decide +kernel
theorem dX0_more_30 : decode cX0_more 30 = .ok (.iload_n 3, 1) := by decide +kernel
theorem dX0_more_31 : decode cX0_more 31 = .ok (.isub, 1) := by decide +kernel
theorem dX0_more_32 : decode cX0_more 32 = .ok (.ireturn, 1) := by decide +kernel
theorem dX0_checkRange_0 : decode cX0_checkRange 0 = .ok (.iload_n 0, 1) := by decide +kernel
theorem dX0_checkRange_1 : decode cX0_checkRange 1 = .ok (.iload_n 1, 1) := by decide +kernel
theorem dX0_checkRange_2 : decode cX0_checkRange 2 = .ok (.if_icmp .lt 8, 3) := by decide +kernel
theorem dX0_checkRange_5 : decode cX0_checkRange 5 = .ok (.iload_n 0, 1) := by decide +kernel
theorem dX0_checkRange_6 : decode cX0_checkRange 6 = .ok (.iload_n 2, 1) := by decide +kernel
theorem dX0_checkRange_7 : decode cX0_checkRange 7 = .ok (.if_icmp .le 13, 3) := by decide +kernel
theorem dX0_checkRange_10 : decode cX0_checkRange 10 = .ok (.new 84, 3) := by decide +kernel
theorem dX0_checkRange_13 : decode cX0_checkRange 13 = .ok (.dup, 1) := by decide +kernel
theorem dX0_checkRange_14 : decode cX0_checkRange 14 = .ok (.ldc 166, 2) := by decide +kernel
theorem dX0_checkRange_16 : decode cX0_checkRange 16 = .ok (.invokespecial 88, 3) := by decide +kernel
theorem dX0_checkRange_19 : decode cX0_checkRange 19 = .ok (.athrow, 1) := by decide +kernel
theorem dX0_checkRange_20 : decode cX0_checkRange 20 = .ok (.return_, 1) := by decide +kernel
set_option maxRecDepth 20000 in
theorem ggX0_checkManual_X0_checkRange : GoodIn wsX0_checkManual wsX0_checkRange := goodIn_ca (goodIn_r _ [4, 5, 6] (by decide +kernel) (by decide +kernel)) (goodIn_sub (fun _ h => List.mem_cons_of_mem _ (List.mem_append_right _ h)) (by decide +kernel))
set_option maxRecDepth 20000 in
theorem gX0_checkManual_X0_checkRange : GoodIn wsX0_checkManual (va_wsS RX0 63 yX0_checkRange wsX0_checkRange) := goodIn_app (goodIn_of _ (by decide +kernel)) ggX0_checkManual_X0_checkRange
theorem dX0_checkManual_0 : decode cX0_checkManual 0 = .ok (.iload_n 0, 1) := by decide +kernel
theorem dX0_checkManual_1 : decode cX0_checkManual 1 = .ok (.iconst 0, 1) := by decide +kernel
theorem dX0_checkManual_2 : decode cX0_checkManual 2 = .ok (.iconst 2, 1) := by decide +kernel
theorem dX0_checkManual_3 : decode cX0_checkManual 3 = .ok (.invokestatic 63, 3) := by decide +kernel
theorem dX0_checkManual_6 : decode cX0_checkManual 6 = .ok (.return_, 1) := by decide +kernel
set_option maxRecDepth 20000 in
theorem ggX0_checkKey_X0_checkRange : GoodIn wsX0_checkKey wsX0_checkRange := goodIn_ca (goodIn_r _ [4, 5, 6] (by decide +kernel) (by decide +kernel)) (goodIn_sub (fun _ h => List.mem_cons_of_mem _ (List.mem_append_right _ h)) (by decide +kernel))
set_option maxRecDepth 20000 in
theorem gX0_checkKey_X0_checkRange : GoodIn wsX0_checkKey (va_wsS RX0 63 yX0_checkRange wsX0_checkRange) := goodIn_app (goodIn_of _ (by decide +kernel)) ggX0_checkKey_X0_checkRange
theorem dX0_checkKey_0 : decode cX0_checkKey 0 = .ok (.iload_n 0, 1) := by decide +kernel
theorem dX0_checkKey_1 : decode cX0_checkKey 1 = .ok (.iconst 0, 1) := by decide +kernel
theorem dX0_checkKey_2 : decode cX0_checkKey 2 = .ok (.bipush 60, 2) := by decide +kernel
theorem dX0_checkKey_4 : decode cX0_checkKey 4 = .ok (.invokestatic 63, 3) := by decide +kernel
theorem dX0_checkKey_7 : decode cX0_checkKey 7 = .ok (.return_, 1) := by decide +kernel
set_option maxRecDepth 20000 in
theorem ggX0_checkRank_X0_checkRange : GoodIn wsX0_checkRank wsX0_checkRange := goodIn_ca (goodIn_r _ [4, 5, 6] (by decide +kernel) (by decide +kernel)) (goodIn_sub (fun _ h => List.mem_cons_of_mem _ (List.mem_append_right _ h)) (by decide +kernel))
set_option maxRecDepth 20000 in
theorem gX0_checkRank_X0_checkRange : GoodIn wsX0_checkRank (va_wsS RX0 63 yX0_checkRange wsX0_checkRange) := goodIn_app (goodIn_of _ (by decide +kernel)) ggX0_checkRank_X0_checkRange
theorem dX0_checkRank_0 : decode cX0_checkRank 0 = .ok (.iload_n 0, 1) := by decide +kernel
theorem dX0_checkRank_1 : decode cX0_checkRank 1 = .ok (.iconst 0, 1) := by decide +kernel
theorem dX0_checkRank_2 : decode cX0_checkRank 2 = .ok (.iconst 5, 1) := by decide +kernel
theorem dX0_checkRank_3 : decode cX0_checkRank 3 = .ok (.invokestatic 63, 3) := by decide +kernel
theorem dX0_checkRank_6 : decode cX0_checkRank 6 = .ok (.return_, 1) := by decide +kernel
set_option maxRecDepth 20000 in
theorem ggX0_checkStop_X0_checkRange : GoodIn wsX0_checkStop wsX0_checkRange := goodIn_ca (goodIn_r _ [4, 5, 6] (by decide +kernel) (by decide +kernel)) (goodIn_sub (fun _ h => List.mem_cons_of_mem _ (List.mem_append_right _ h)) (by decide +kernel))
set_option maxRecDepth 20000 in
theorem gX0_checkStop_X0_checkRange : GoodIn wsX0_checkStop (va_wsS RX0 63 yX0_checkRange wsX0_checkRange) := goodIn_app (goodIn_of _ (by decide +kernel)) ggX0_checkStop_X0_checkRange
theorem dX0_checkStop_0 : decode cX0_checkStop 0 = .ok (.iload_n 0, 1) := by decide +kernel
theorem dX0_checkStop_1 : decode cX0_checkStop 1 = .ok (.iconst 0, 1) := by decide +kernel
theorem dX0_checkStop_2 : decode cX0_checkStop 2 = .ok (.bipush 11, 2) := by decide +kernel
theorem dX0_checkStop_4 : decode cX0_checkStop 4 = .ok (.invokestatic 63, 3) := by decide +kernel
theorem dX0_checkStop_7 : decode cX0_checkStop 7 = .ok (.return_, 1) := by decide +kernel
theorem dX0_keyBit_0 : decode cX0_keyBit 0 = .ok (.lconst 1, 1) := by decide +kernel
theorem dX0_keyBit_1 : decode cX0_keyBit 1 = .ok (.iload_n 0, 1) := by decide +kernel
theorem dX0_keyBit_2 : decode cX0_keyBit 2 = .ok (.lshl, 1) := by decide +kernel
theorem dX0_keyBit_3 : decode cX0_keyBit 3 = .ok (.lreturn, 1) := by decide +kernel
set_option maxRecDepth 20000 in
theorem ggX0_hasKey_X0_keyBit : GoodIn wsX0_hasKey wsX0_keyBit := goodIn_r _ [4] (by decide +kernel) (by decide +kernel)
set_option maxRecDepth 20000 in
theorem gX0_hasKey_X0_keyBit : GoodIn wsX0_hasKey (va_wsS RX0 120 yX0_keyBit wsX0_keyBit) := goodIn_app (goodIn_of _ (by decide +kernel)) ggX0_hasKey_X0_keyBit
theorem dX0_hasKey_0 : decode cX0_hasKey 0 = .ok (.lload_n 0, 1) := by decide +kernel
theorem dX0_hasKey_1 : decode cX0_hasKey 1 = .ok (.iload_n 2, 1) := by decide +kernel
theorem dX0_hasKey_2 : decode cX0_hasKey 2 = .ok (.invokestatic 120, 3) := by decide +kernel
theorem dX0_hasKey_5 : decode cX0_hasKey 5 = .ok (.land, 1) := by decide +kernel
theorem dX0_hasKey_6 : decode cX0_hasKey 6 = .ok (.lconst 0, 1) := by decide +kernel
theorem dX0_hasKey_7 : decode cX0_hasKey 7 = .ok (.lcmp, 1) := by decide +kernel
theorem dX0_hasKey_8 : decode cX0_hasKey 8 = .ok (.ifCond .eq 7, 3) := by decide +kernel
theorem dX0_hasKey_11 : decode cX0_hasKey 11 = .ok (.iconst 1, 1) := by decide +kernel
theorem dX0_hasKey_12 : decode cX0_hasKey 12 = .ok (.goto 4, 3) := by decide +kernel
theorem dX0_hasKey_15 : decode cX0_hasKey 15 = .ok (.iconst 0, 1) := by decide +kernel
theorem dX0_hasKey_16 : decode cX0_hasKey 16 = .ok (.ireturn, 1) := by decide +kernel
theorem dX0_shifted_0 : decode cX0_shifted 0 = .ok (.iload_n 2, 1) := by decide +kernel
theorem dX0_shifted_1 : decode cX0_shifted 1 = .ok (.ifCond .le 11, 3) := by decide +kernel
theorem dX0_shifted_4 : decode cX0_shifted 4 = .ok (.lload_n 0, 1) := by decide +kernel
theorem dX0_shifted_5 : decode cX0_shifted 5 = .ok (.iload_n 2, 1) := by decide +kernel
theorem dX0_shifted_6 : decode cX0_shifted 6 = .ok (.lshl, 1) := by decide +kernel
theorem dX0_shifted_7 : decode cX0_shifted 7 = .ok (.ldc2_w 168, 3) := by decide +kernel
theorem dX0_shifted_10 : decode cX0_shifted 10 = .ok (.land, 1) := by decide +kernel
theorem dX0_shifted_11 : decode cX0_shifted 11 = .ok (.lreturn, 1) := by decide +kernel
theorem dX0_shifted_12 : decode cX0_shifted 12 = .ok (.lload_n 0, 1) := by decide +kernel
theorem dX0_shifted_13 : decode cX0_shifted 13 = .ok (.iload_n 2, 1) := by decide +kernel
theorem dX0_shifted_14 : decode cX0_shifted 14 = .ok (.ineg, 1) := by decide +kernel
theorem dX0_shifted_15 : decode cX0_shifted 15 = .ok (.lushr, 1) := by decide +kernel
theorem dX0_shifted_16 : decode cX0_shifted 16 = .ok (.lreturn, 1) := by decide +kernel
theorem dX0_isDrawn_0 : decode cX0_isDrawn 0 = .ok (.aload_n 0, 1) := by decide +kernel
theorem dX0_isDrawn_1 : decode cX0_isDrawn 1 = .ok (.getfield 104, 3) := by decide +kernel
theorem dX0_isDrawn_4 : decode cX0_isDrawn 4 = .ok (.iconst 1, 1) := by decide +kernel
theorem dX0_isDrawn_5 : decode cX0_isDrawn 5 = .ok (.iload_n 1, 1) := by decide +kernel
theorem dX0_isDrawn_6 : decode cX0_isDrawn 6 = .ok (.ishl, 1) := by decide +kernel
theorem dX0_isDrawn_7 : decode cX0_isDrawn 7 = .ok (.iand, 1) := by decide +kernel
theorem dX0_isDrawn_8 : decode cX0_isDrawn 8 = .ok (.ifCond .eq 7, 3) := by decide +kernel
theorem dX0_isDrawn_11 : decode cX0_isDrawn 11 = .ok (.iconst 1, 1) := by decide +kernel
theorem dX0_isDrawn_12 : decode cX0_isDrawn 12 = .ok (.goto 4, 3) := by decide +kernel
theorem dX0_isDrawn_15 : decode cX0_isDrawn 15 = .ok (.iconst 0, 1) := by decide +kernel
theorem dX0_isDrawn_16 : decode cX0_isDrawn 16 = .ok (.ireturn, 1) := by decide +kernel
theorem dX0_isCoupled_0 : decode cX0_isCoupled 0 = .ok (.aload_n 0, 1) := by decide +kernel
theorem dX0_isCoupled_1 : decode cX0_isCoupled 1 = .ok (.getfield 33, 3) := by decide +kernel
theorem dX0_isCoupled_4 : decode cX0_isCoupled 4 = .ok (.iload_n 1, 1) := by decide +kernel
theorem dX0_isCoupled_5 : decode cX0_isCoupled 5 = .ok (.aaload, 1) := by decide +kernel
theorem dX0_isCoupled_6 : decode cX0_isCoupled 6 = .ok (.iload_n 2, 1) := by decide +kernel
theorem dX0_isCoupled_7 : decode cX0_isCoupled 7 = .ok (.iaload, 1) := by decide +kernel
theorem dX0_isCoupled_8 : decode cX0_isCoupled 8 = .ok (.iconst 1, 1) := by decide +kernel
theorem dX0_isCoupled_9 : decode cX0_isCoupled 9 = .ok (.if_icmp .eq 7, 3) := by decide +kernel
theorem dX0_isCoupled_12 : decode cX0_isCoupled 12 = .ok (.iconst 1, 1) := by decide +kernel
theorem dX0_isCoupled_13 : decode cX0_isCoupled 13 = .ok (.goto 4, 3) := by decide +kernel
theorem dX0_isCoupled_16 : decode cX0_isCoupled 16 = .ok (.iconst 0, 1) := by decide +kernel
theorem dX0_isCoupled_17 : decode cX0_isCoupled 17 = .ok (.ireturn, 1) := by decide +kernel
set_option maxRecDepth 20000 in
theorem ggX0_countCouplers_X0_isCoupled : GoodIn wsX0_countCouplers wsX0_isCoupled := goodIn_r _ [5, 6, 7, 8, 9, 10, 11, 12, 13, 14, 15, 16, 17, 18, 19, 20, 21] (by decide +kernel) (by decide +kernel)
set_option maxRecDepth 20000 in
theorem gX0_countCouplers_X0_isCoupled : GoodIn wsX0_countCouplers (wsV RX0 101 RX0 yX0_isCoupled wsX0_isCoupled) := goodIn_app (goodIn_of _ (by decide +kernel)) ggX0_countCouplers_X0_isCoupled
theorem dX0_countCouplers_0 : decode cX0_countCouplers 0 = .ok (.iconst 0, 1) := by decide +kernel
theorem dX0_countCouplers_1 : decode cX0_countCouplers 1 = .ok (.istore_n 1, 1) := by decide +kernel
theorem dX0_countCouplers_2 : decode cX0_countCouplers 2 = .ok (.iconst 0, 1) := by decide +kernel
theorem dX0_countCouplers_3 : decode cX0_countCouplers 3 = .ok (.istore_n 2, 1) := by decide +kernel
theorem dX0_countCouplers_4 : decode cX0_countCouplers 4 = .ok (.iload_n 2, 1) := by decide +kernel
theorem dX0_countCouplers_5 : decode cX0_countCouplers 5 = .ok (.iconst 3, 1) := by decide +kernel
theorem dX0_countCouplers_6 : decode cX0_countCouplers 6 = .ok (.if_icmp .ge 34, 3) := by decide +kernel
theorem dX0_countCouplers_9 : decode cX0_countCouplers 9 = .ok (.iconst 0, 1) := by decide +kernel
theorem dX0_countCouplers_10 : decode cX0_countCouplers 10 = .ok (.istore_n 3, 1) := by decide +kernel
theorem dX0_countCouplers_11 : decode cX0_countCouplers 11 = .ok (.iload_n 3, 1) := by decide +kernel
theorem dX0_countCouplers_12 : decode cX0_countCouplers 12 = .ok (.iconst 3, 1) := by decide +kernel
theorem dX0_countCouplers_13 : decode cX0_countCouplers 13 = .ok (.if_icmp .ge 21, 3) := by decide +kernel
theorem dX0_countCouplers_16 : decode cX0_countCouplers 16 = .ok (.aload_n 0, 1) := by decide +kernel
theorem dX0_countCouplers_17 : decode cX0_countCouplers 17 = .ok (.iload_n 2, 1) := by decide +kernel
theorem dX0_countCouplers_18 : decode cX0_countCouplers 18 = .ok (.iload_n 3, 1) := by decide +kernel
theorem dX0_countCouplers_19 : decode cX0_countCouplers 19 = .ok (.invokevirtual 101, 3) := by decide +kernel
theorem dX0_countCouplers_22 : decode cX0_countCouplers 22 = .ok (.ifCond .eq 6, 3) := by decide +kernel
theorem dX0_countCouplers_25 : decode cX0_countCouplers 25 = .ok (.iinc 1 1, 3) := by decide +kernel
theorem dX0_countCouplers_28 : decode cX0_countCouplers 28 = .ok (.iinc 3 1, 3) := by decide +kernel
theorem dX0_countCouplers_31 : decode cX0_countCouplers 31 = .ok (.goto (-20), 3) := by decide +kernel
theorem dX0_countCouplers_34 : decode cX0_countCouplers 34 = .ok (.iinc 2 1, 3) := by decide +kernel
theorem dX0_countCouplers_37 : decode cX0_countCouplers 37 = .ok (.goto (-33), 3) := by decide +kernel
theorem dX0_countCouplers_40 : decode cX0_countCouplers 40 = .ok (.iload_n 1, 1) := by decide +kernel
theorem dX0_countCouplers_41 : decode cX0_countCouplers 41 = .ok (.ireturn, 1) := by decide +kernel
set_option maxRecDepth 20000 in
theorem ggX0_leadsTo_X0_isCoupled : GoodIn wsX0_leadsTo wsX0_isCoupled := goodIn_r _ [5, 6, 7, 8, 9, 10, 11, 12, 13, 14, 15, 16, 17, 18, 19, 20, 21] (by decide +kernel) (by decide +kernel)
set_option maxRecDepth 20000 in
theorem gX0_leadsTo_X0_isCoupled : GoodIn wsX0_leadsTo (wsV RX0 101 RX0 yX0_isCoupled wsX0_isCoupled) := goodIn_app (goodIn_of _ (by decide +kernel)) ggX0_leadsTo_X0_isCoupled
theorem dX0_leadsTo_0 : decode cX0_leadsTo 0 = .ok (.aload_n 0, 1) := by decide +kernel
theorem dX0_leadsTo_1 : decode cX0_leadsTo 1 = .ok (.iload_n 1, 1) := by decide +kernel
theorem dX0_leadsTo_2 : decode cX0_leadsTo 2 = .ok (.iload_n 2, 1) := by decide +kernel
theorem dX0_leadsTo_3 : decode cX0_leadsTo 3 = .ok (.invokevirtual 101, 3) := by decide +kernel
theorem dX0_leadsTo_6 : decode cX0_leadsTo 6 = .ok (.ifCond .eq 5, 3) := by decide +kernel
theorem dX0_leadsTo_9 : decode cX0_leadsTo 9 = .ok (.iconst 1, 1) := by decide +kernel
theorem dX0_leadsTo_10 : decode cX0_leadsTo 10 = .ok (.ireturn, 1) := by decide +kernel
theorem dX0_leadsTo_11 : decode cX0_leadsTo 11 = .ok (.iconst 0, 1) := by decide +kernel
theorem dX0_leadsTo_12 : decode cX0_leadsTo 12 = .ok (.istore_n 3, 1) := by decide +kernel
theorem dX0_leadsTo_13 : decode cX0_leadsTo 13 = .ok (.iload_n 3, 1) := by decide +kernel
theorem dX0_leadsTo_14 : decode cX0_leadsTo 14 = .ok (.iconst 3, 1) := by decide +kernel
theorem dX0_leadsTo_15 : decode cX0_leadsTo 15 = .ok (.if_icmp .ge 29, 3) := by decide +kernel
theorem dX0_leadsTo_18 : decode cX0_leadsTo 18 = .ok (.aload_n 0, 1) := by decide +kernel
theorem dX0_leadsTo_19 : decode cX0_leadsTo 19 = .ok (.iload_n 1, 1) := by decide +kernel
theorem dX0_leadsTo_20 : decode cX0_leadsTo 20 = .ok (.iload_n 3, 1) := by decide +kernel
theorem dX0_leadsTo_21 : decode cX0_leadsTo 21 = .ok (.invokevirtual 101, 3) := by decide +kernel
theorem dX0_leadsTo_24 : decode cX0_leadsTo 24 = .ok (.ifCond .eq 14, 3) := by decide +kernel
theorem dX0_leadsTo_27 : decode cX0_leadsTo 27 = .ok (.aload_n 0, 1) := by decide +kernel
theorem dX0_leadsTo_28 : decode cX0_leadsTo 28 = .ok (.iload_n 3, 1) := by decide +kernel
theorem dX0_leadsTo_29 : decode cX0_leadsTo 29 = .ok (.iload_n 2, 1) := by decide +kernel
theorem dX0_leadsTo_30 : decode cX0_leadsTo 30 = .ok (.invokevirtual 101, 3) := by decide +kernel
theorem dX0_leadsTo_33 : decode cX0_leadsTo 33 = .ok (.ifCond .eq 5, 3) := by decide +kernel
theorem dX0_leadsTo_36 : decode cX0_leadsTo 36 = .ok (.iconst 1, 1) := by decide +kernel
theorem dX0_leadsTo_37 : decode cX0_leadsTo 37 = .ok (.ireturn, 1) := by decide +kernel
theorem dX0_leadsTo_38 : decode cX0_leadsTo 38 = .ok (.iinc 3 1, 3) := by decide +kernel
theorem dX0_leadsTo_41 : decode cX0_leadsTo 41 = .ok (.goto (-28), 3) := by decide +kernel
theorem dX0_leadsTo_44 : decode cX0_leadsTo 44 = .ok (.iconst 0, 1) := by decide +kernel
theorem dX0_leadsTo_45 : decode cX0_leadsTo 45 = .ok (.ireturn, 1) := by decide +kernel
set_option maxRecDepth 20000 in
theorem ggX0_findReached_X0_followCouplers : GoodIn wsX0_findReached wsX0_followCouplers := goodIn_r _ [7, 1, 8, 9, 10, 11, 6, 12, 13, 14, 15, 16, 17, 18, 19, 20, 21, 22, 23, 24, 25, 26, 27, 28, 29, 30, 31] (by decide +kernel) (by decide +kernel)
set_option maxRecDepth 20000 in
theorem gX0_findReached_X0_followCouplers : GoodIn wsX0_findReached (wsV RX0 170 RX0 yX0_followCouplers wsX0_followCouplers) := goodIn_app (goodIn_of _ (by decide +kernel)) ggX0_findReached_X0_followCouplers
theorem dX0_findReached_0 : decode cX0_findReached 0 = .ok (.iconst 0, 1) := by decide +kernel
theorem dX0_findReached_1 : decode cX0_findReached 1 = .ok (.istore 4, 2) := by decide +kernel
theorem dX0_findReached_3 : decode cX0_findReached 3 = .ok (.iload 4, 2) := by decide +kernel
theorem dX0_findReached_5 : decode cX0_findReached 5 = .ok (.iconst 3, 1) := by decide +kernel
theorem dX0_findReached_6 : decode cX0_findReached 6 = .ok (.if_icmp .ge 23, 3) := by decide +kernel
theorem dX0_findReached_9 : decode cX0_findReached 9 = .ok (.aload_n 0, 1) := by decide +kernel
theorem dX0_findReached_10 : decode cX0_findReached 10 = .ok (.getfield 46, 3) := by decide +kernel
theorem dX0_findReached_13 : decode cX0_findReached 13 = .ok (.iload 4, 2) := by decide +kernel
theorem dX0_findReached_15 : decode cX0_findReached 15 = .ok (.aload_n 0, 1) := by decide +kernel
theorem dX0_findReached_16 : decode cX0_findReached 16 = .ok (.getfield 36, 3) := by decide +kernel
theorem dX0_findReached_19 : decode cX0_findReached 19 = .ok (.iload 4, 2) := by decide +kernel
theorem dX0_findReached_21 : decode cX0_findReached 21 = .ok (.laload, 1) := by decide +kernel
theorem dX0_findReached_22 : decode cX0_findReached 22 = .ok (.lastore, 1) := by decide +kernel
theorem dX0_findReached_23 : decode cX0_findReached 23 = .ok (.iinc 4 1, 3) := by decide +kernel
theorem dX0_findReached_26 : decode cX0_findReached 26 = .ok (.goto (-23), 3) := by decide +kernel
theorem dX0_findReached_29 : decode cX0_findReached 29 = .ok (.aload_n 0, 1) := by decide +kernel
theorem dX0_findReached_30 : decode cX0_findReached 30 = .ok (.getfield 46, 3) := by decide +kernel
theorem dX0_findReached_33 : decode cX0_findReached 33 = .ok (.iload_n 1, 1) := by decide +kernel
theorem dX0_findReached_34 : decode cX0_findReached 34 = .ok (.dup2, 1) := by decide +kernel
theorem dX0_findReached_35 : decode cX0_findReached 35 = .ok (.laload, 1) := by decide +kernel
theorem dX0_findReached_36 : decode cX0_findReached 36 = .ok (.lload_n 2, 1) := by decide +kernel
theorem dX0_findReached_37 : decode cX0_findReached 37 = .ok (.lor, 1) := by decide +kernel
theorem dX0_findReached_38 : decode cX0_findReached 38 = .ok (.lastore, 1) := by decide +kernel
theorem dX0_findReached_39 : decode cX0_findReached 39 = .ok (.iconst 1, 1) := by decide +kernel
theorem dX0_findReached_40 : decode cX0_findReached 40 = .ok (.istore 4, 2) := by decide +kernel
theorem dX0_findReached_42 : decode cX0_findReached 42 = .ok (.iload 4, 2) := by decide +kernel
theorem dX0_findReached_44 : decode cX0_findReached 44 = .ok (.iconst 3, 1) := by decide +kernel
theorem dX0_findReached_45 : decode cX0_findReached 45 = .ok (.if_icmp .ge 13, 3) := by decide +kernel
theorem dX0_findReached_48 : decode cX0_findReached 48 = .ok (.aload_n 0, 1) := by decide +kernel
theorem dX0_findReached_49 : decode cX0_findReached 49 = .ok (.invokevirtual 170, 3) := by decide +kernel
theorem dX0_findReached_52 : decode cX0_findReached 52 = .ok (.iinc 4 1, 3) := by decide +kernel
theorem dX0_findReached_55 : decode cX0_findReached 55 = .ok (.goto (-13), 3) := by decide +kernel
theorem dX0_findReached_58 : decode cX0_findReached 58 = .ok (.return_, 1) := by decide +kernel
set_option maxRecDepth 20000 in
theorem ggX0_followCouplers_X0_isCoupled : GoodIn wsX0_followCouplers wsX0_isCoupled := goodIn_r _ [7, 2, 12, 13, 14, 15, 16, 17, 18, 19, 20, 21, 22, 23, 24, 25, 26] (by decide +kernel) (by decide +kernel)
set_option maxRecDepth 20000 in
theorem gX0_followCouplers_X0_isCoupled : GoodIn wsX0_followCouplers (wsV RX0 101 RX0 yX0_isCoupled wsX0_isCoupled) := goodIn_app (goodIn_of _ (by decide +kernel)) ggX0_followCouplers_X0_isCoupled
set_option maxRecDepth 20000 in
theorem ggX0_followCouplers_X0_shifted : GoodIn wsX0_followCouplers wsX0_shifted := goodIn_r _ [10, 11] (by decide +kernel) (by decide +kernel)
set_option maxRecDepth 20000 in
theorem gX0_followCouplers_X0_shifted : GoodIn wsX0_followCouplers (va_wsS RX0 173 yX0_shifted wsX0_shifted) := goodIn_app (goodIn_of _ (by decide +kernel)) ggX0_followCouplers_X0_shifted
theorem dX0_followCouplers_0 : decode cX0_followCouplers 0 = .ok (.iconst 0, 1) := by decide +kernel
theorem dX0_followCouplers_1 : decode cX0_followCouplers 1 = .ok (.istore_n 1, 1) := by decide +kernel
theorem dX0_followCouplers_2 : decode cX0_followCouplers 2 = .ok (.iload_n 1, 1) := by decide +kernel
theorem dX0_followCouplers_3 : decode cX0_followCouplers 3 = .ok (.iconst 3, 1) := by decide +kernel
theorem dX0_followCouplers_4 : decode cX0_followCouplers 4 = .ok (.if_icmp .ge 57, 3) := by decide +kernel
theorem dX0_followCouplers_7 : decode cX0_followCouplers 7 = .ok (.iconst 0, 1) := by decide +kernel
theorem dX0_followCouplers_8 : decode cX0_followCouplers 8 = .ok (.istore_n 2, 1) := by decide +kernel
theorem dX0_followCouplers_9 : decode cX0_followCouplers 9 = .ok (.iload_n 2, 1) := by decide +kernel
theorem dX0_followCouplers_10 : decode cX0_followCouplers 10 = .ok (.iconst 3, 1) := by decide +kernel
theorem dX0_followCouplers_11 : decode cX0_followCouplers 11 = .ok (.if_icmp .ge 44, 3) := by decide +kernel
theorem dX0_followCouplers_14 : decode cX0_followCouplers 14 = .ok (.aload_n 0, 1) := by decide +kernel
theorem dX0_followCouplers_15 : decode cX0_followCouplers 15 = .ok (.iload_n 1, 1) := by decide +kernel
theorem dX0_followCouplers_16 : decode cX0_followCouplers 16 = .ok (.iload_n 2, 1) := by decide +kernel
theorem dX0_followCouplers_17 : decode cX0_followCouplers 17 = .ok (.invokevirtual 101, 3) := by decide +kernel
theorem dX0_followCouplers_20 : decode cX0_followCouplers 20 = .ok (.ifCond .eq 29, 3) := by decide +kernel
theorem dX0_followCouplers_23 : decode cX0_followCouplers 23 = .ok (.aload_n 0, 1) := by decide +kernel
theorem dX0_followCouplers_24 : decode cX0_followCouplers 24 = .ok (.getfield 46, 3) := by decide +kernel
theorem dX0_followCouplers_27 : decode cX0_followCouplers 27 = .ok (.iload_n 2, 1) := by decide +kernel
theorem dX0_followCouplers_28 : decode cX0_followCouplers 28 = .ok (.dup2, 1) := by decide +kernel
theorem dX0_followCouplers_29 : decode cX0_followCouplers 29 = .ok (.laload, 1) := by decide +kernel
theorem dX0_followCouplers_30 : decode cX0_followCouplers 30 = .ok (.aload_n 0, 1) := by decide +kernel
theorem dX0_followCouplers_31 : decode cX0_followCouplers 31 = .ok (.getfield 46, 3) := by decide +kernel
theorem dX0_followCouplers_34 : decode cX0_followCouplers 34 = .ok (.iload_n 1, 1) := by decide +kernel
theorem dX0_followCouplers_35 : decode cX0_followCouplers 35 = .ok (.laload, 1) := by decide +kernel
theorem dX0_followCouplers_36 : decode cX0_followCouplers 36 = .ok (.aload_n 0, 1) := by decide +kernel
theorem dX0_followCouplers_37 : decode cX0_followCouplers 37 = .ok (.getfield 33, 3) := by decide +kernel
theorem dX0_followCouplers_40 : decode cX0_followCouplers 40 = .ok (.iload_n 1, 1) := by decide +kernel
theorem dX0_followCouplers_41 : decode cX0_followCouplers 41 = .ok (.aaload, 1) := by decide +kernel
theorem dX0_followCouplers_42 : decode cX0_followCouplers 42 = .ok (.iload_n 2, 1) := by decide +kernel
theorem dX0_followCouplers_43 : decode cX0_followCouplers 43 = .ok (.iaload, 1) := by decide +kernel
theorem dX0_followCouplers_44 : decode cX0_followCouplers 44 = .ok (.invokestatic 173, 3) := by decide +kernel
theorem dX0_followCouplers_47 : decode cX0_followCouplers 47 = .ok (.lor, 1) := by decide +kernel
theorem dX0_followCouplers_48 : decode cX0_followCouplers 48 = .ok (.lastore, 1) := by decide +kernel
theorem dX0_followCouplers_49 : decode cX0_followCouplers 49 = .ok (.iinc 2 1, 3) := by decide +kernel
theorem dX0_followCouplers_52 : decode cX0_followCouplers 52 = .ok (.goto (-43), 3) := by decide +kernel
theorem dX0_followCouplers_55 : decode cX0_followCouplers 55 = .ok (.iinc 1 1, 3) := by decide +kernel
theorem dX0_followCouplers_58 : decode cX0_followCouplers 58 = .ok (.goto (-56), 3) := by decide +kernel
theorem dX0_followCouplers_61 : decode cX0_followCouplers 61 = .ok (.return_, 1) := by decide +kernel
set_option maxRecDepth 20000 in
theorem ggX0_findSounding_X0_findSoundingWith : GoodIn wsX0_findSounding wsX0_findSoundingWith := goodIn_r _ [5, 6, 7, 8, 9, 10, 4, 11, 12, 13, 14, 15, 16, 17, 18, 19, 20, 21, 22, 23, 24, 25, 26, 27, 28, 29, 30, 31, 32, 33, 34, 35, 36, 37, 38, 39, 40, 41, 42, 43, 44, 45, 46, 47, 48, 49, 50, 51, 52, 53, 54, 55, 56, 57, 58, 59, 60, 61, 62, 63, 64] (by decide +kernel) (by decide +kernel)
set_option maxRecDepth 20000 in
theorem gX0_findSounding_X0_findSoundingWith : GoodIn wsX0_findSounding (wsV RX0 162 RX0 yX0_findSoundingWith wsX0_findSoundingWith) := goodIn_app (goodIn_of _ (by decide +kernel)) ggX0_findSounding_X0_findSoundingWith
theorem dX0_findSounding_0 : decode cX0_findSounding 0 = .ok (.aload_n 0, 1) := by decide +kernel
theorem dX0_findSounding_1 : decode cX0_findSounding 1 = .ok (.iconst 0, 1) := by decide +kernel
theorem dX0_findSounding_2 : decode cX0_findSounding 2 = .ok (.lconst 0, 1) := by decide +kernel
theorem dX0_findSounding_3 : decode cX0_findSounding 3 = .ok (.invokevirtual 162, 3) := by decide +kernel
theorem dX0_findSounding_6 : decode cX0_findSounding 6 = .ok (.return_, 1) := by decide +kernel
set_option maxRecDepth 20000 in
theorem ggX0_findSoundingWith_X0_findReached : GoodIn wsX0_findSoundingWith wsX0_findReached := goodIn_r _ [7, 8, 9, 10, 11, 12, 6, 13, 14, 15, 16, 17, 18, 19, 20, 21, 22, 46, 47, 48, 49, 50, 51, 52, 53, 54, 55, 56, 57, 58, 59, 60] (by decide +kernel) (by decide +kernel)
set_option maxRecDepth 20000 in
theorem gX0_findSoundingWith_X0_findReached : GoodIn wsX0_findSoundingWith (wsV RX0 177 RX0 yX0_findReached wsX0_findReached) := goodIn_app (goodIn_of _ (by decide +kernel)) ggX0_findSoundingWith_X0_findReached
set_option maxRecDepth 20000 in
theorem ggX0_findSoundingWith_X0_keysOfDrawnStops : GoodIn wsX0_findSoundingWith wsX0_keysOfDrawnStops := goodIn_r _ [26, 27, 28, 29, 30, 6, 31, 32, 33, 34, 35, 36, 37, 8, 46, 47, 48, 49, 50, 51, 52, 53, 54, 55, 56, 57, 58, 59, 60] (by decide +kernel) (by decide +kernel)
set_option maxRecDepth 20000 in
theorem gX0_findSoundingWith_X0_keysOfDrawnStops : GoodIn wsX0_findSoundingWith (wsV RX0 180 RX0 yX0_keysOfDrawnStops wsX0_keysOfDrawnStops) := goodIn_app (goodIn_of _ (by decide +kernel)) ggX0_findSoundingWith_X0_keysOfDrawnStops
set_option maxRecDepth 20000 in
theorem ggX0_findSoundingWith_X0_mutePipes : GoodIn wsX0_findSoundingWith wsX0_mutePipes := goodIn_r _ [41, 42, 43, 44, 6, 45, 46, 47, 48, 49, 50, 51, 52, 53, 54, 55, 56, 57, 58, 59, 60] (by decide +kernel) (by decide +kernel)
set_option maxRecDepth 20000 in
theorem gX0_findSoundingWith_X0_mutePipes : GoodIn wsX0_findSoundingWith (wsV RX0 139 RX0 yX0_mutePipes wsX0_mutePipes) := goodIn_app (goodIn_of _ (by decide +kernel)) ggX0_findSoundingWith_X0_mutePipes
theorem dX0_findSoundingWith_0 : decode cX0_findSoundingWith 0 = .ok (.aload_n 0, 1) := by decide +kernel
theorem dX0_findSoundingWith_1 : decode cX0_findSoundingWith 1 = .ok (.iload_n 1, 1) := by decide +kernel
theorem dX0_findSoundingWith_2 : decode cX0_findSoundingWith 2 = .ok (.lload_n 2, 1) := by decide +kernel
theorem dX0_findSoundingWith_3 : decode cX0_findSoundingWith 3 = .ok (.invokevirtual 177, 3) := by decide +kernel
theorem dX0_findSoundingWith_6 : decode cX0_findSoundingWith 6 = .ok (.iconst 0, 1) := by decide +kernel
theorem dX0_findSoundingWith_7 : decode cX0_findSoundingWith 7 = .ok (.istore 4, 2) := by decide +kernel
theorem dX0_findSoundingWith_9 : decode cX0_findSoundingWith 9 = .ok (.iload 4, 2) := by decide +kernel
theorem dX0_findSoundingWith_11 : decode cX0_findSoundingWith 11 = .ok (.bipush 6, 2) := by decide +kernel
theorem dX0_findSoundingWith_13 : decode cX0_findSoundingWith 13 = .ok (.if_icmp .ge 33, 3) := by decide +kernel
theorem dX0_findSoundingWith_16 : decode cX0_findSoundingWith 16 = .ok (.aload_n 0, 1) := by decide +kernel
theorem dX0_findSoundingWith_17 : decode cX0_findSoundingWith 17 = .ok (.getfield 49, 3) := by decide +kernel
theorem dX0_findSoundingWith_20 : decode cX0_findSoundingWith 20 = .ok (.iload 4, 2) := by decide +kernel
theorem dX0_findSoundingWith_22 : decode cX0_findSoundingWith 22 = .ok (.aload_n 0, 1) := by decide +kernel
theorem dX0_findSoundingWith_23 : decode cX0_findSoundingWith 23 = .ok (.iload 4, 2) := by decide +kernel
theorem dX0_findSoundingWith_25 : decode cX0_findSoundingWith 25 = .ok (.invokevirtual 180, 3) := by decide +kernel
theorem dX0_findSoundingWith_28 : decode cX0_findSoundingWith 28 = .ok (.aload_n 0, 1) := by decide +kernel
theorem dX0_findSoundingWith_29 : decode cX0_findSoundingWith 29 = .ok (.iload 4, 2) := by decide +kernel
theorem dX0_findSoundingWith_31 : decode cX0_findSoundingWith 31 = .ok (.invokevirtual 139, 3) := by decide +kernel
theorem dX0_findSoundingWith_34 : decode cX0_findSoundingWith 34 = .ok (.ldc2_w 183, 3) := by decide +kernel
theorem dX0_findSoundingWith_37 : decode cX0_findSoundingWith 37 = .ok (.lxor, 1) := by decide +kernel
theorem dX0_findSoundingWith_38 : decode cX0_findSoundingWith 38 = .ok (.land, 1) := by decide +kernel
theorem dX0_findSoundingWith_39 : decode cX0_findSoundingWith 39 = .ok (.lastore, 1) := by decide +kernel
theorem dX0_findSoundingWith_40 : decode cX0_findSoundingWith 40 = .ok (.iinc 4 1, 3) := by decide +kernel
theorem dX0_findSoundingWith_43 : decode cX0_findSoundingWith 43 = .ok (.goto (-34), 3) := by decide +kernel
theorem dX0_findSoundingWith_46 : decode cX0_findSoundingWith 46 = .ok (.return_, 1) := by decide +kernel
set_option maxRecDepth 20000 in
theorem ggX0_keysOfDrawnStops_X0_isDrawn : GoodIn wsX0_keysOfDrawnStops wsX0_isDrawn := goodIn_r _ [6, 7, 14, 15, 16, 17, 18, 19, 20, 21, 22, 23, 24, 25, 26, 27, 28] (by decide +kernel) (by decide +kernel)
set_option maxRecDepth 20000 in
theorem gX0_keysOfDrawnStops_X0_isDrawn : GoodIn wsX0_keysOfDrawnStops (wsV RX0 73 RX0 yX0_isDrawn wsX0_isDrawn) := goodIn_app (goodIn_of _ (by decide +kernel)) ggX0_keysOfDrawnStops_X0_isDrawn
set_option maxRecDepth 20000 in
theorem ggX0_keysOfDrawnStops_X0_keysReachedBy : GoodIn wsX0_keysOfDrawnStops wsX0_keysReachedBy := goodIn_r _ [11, 12, 13, 14, 15, 16, 17, 18, 19, 20, 21, 22, 23, 24, 25, 26, 27, 28] (by decide +kernel) (by decide +kernel)
set_option maxRecDepth 20000 in
theorem gX0_keysOfDrawnStops_X0_keysReachedBy : GoodIn wsX0_keysOfDrawnStops (wsV RX0 185 RX0 yX0_keysReachedBy wsX0_keysReachedBy) := goodIn_app (goodIn_of _ (by decide +kernel)) ggX0_keysOfDrawnStops_X0_keysReachedBy
theorem dX0_keysOfDrawnStops_0 : decode cX0_keysOfDrawnStops 0 = .ok (.lconst 0, 1) := by decide +kernel
theorem dX0_keysOfDrawnStops_1 : decode cX0_keysOfDrawnStops 1 = .ok (.lstore_n 2, 1) := by decide +kernel
theorem dX0_keysOfDrawnStops_2 : decode cX0_keysOfDrawnStops 2 = .ok (.iconst 0, 1) := by decide +kernel
theorem dX0_keysOfDrawnStops_3 : decode cX0_keysOfDrawnStops 3 = .ok (.istore 4, 2) := by decide +kernel
theorem dX0_keysOfDrawnStops_5 : decode cX0_keysOfDrawnStops 5 = .ok (.iload 4, 2) := by decide +kernel
theorem dX0_keysOfDrawnStops_7 : decode cX0_keysOfDrawnStops 7 = .ok (.bipush 12, 2) := by decide +kernel
theorem dX0_keysOfDrawnStops_9 : decode cX0_keysOfDrawnStops 9 = .ok (.if_icmp .ge 38, 3) := by decide +kernel
theorem dX0_keysOfDrawnStops_12 : decode cX0_keysOfDrawnStops 12 = .ok (.aload_n 0, 1) := by decide +kernel
theorem dX0_keysOfDrawnStops_13 : decode cX0_keysOfDrawnStops 13 = .ok (.iload 4, 2) := by decide +kernel
theorem dX0_keysOfDrawnStops_15 : decode cX0_keysOfDrawnStops 15 = .ok (.invokevirtual 73, 3) := by decide +kernel
theorem dX0_keysOfDrawnStops_18 : decode cX0_keysOfDrawnStops 18 = .ok (.ifCond .eq 23, 3) := by decide +kernel
theorem dX0_keysOfDrawnStops_21 : decode cX0_keysOfDrawnStops 21 = .ok (.aload_n 0, 1) := by decide +kernel
theorem dX0_keysOfDrawnStops_22 : decode cX0_keysOfDrawnStops 22 = .ok (.getfield 27, 3) := by decide +kernel
theorem dX0_keysOfDrawnStops_25 : decode cX0_keysOfDrawnStops 25 = .ok (.iload 4, 2) := by decide +kernel
theorem dX0_keysOfDrawnStops_27 : decode cX0_keysOfDrawnStops 27 = .ok (.iaload, 1) := by decide +kernel
theorem dX0_keysOfDrawnStops_28 : decode cX0_keysOfDrawnStops 28 = .ok (.iload_n 1, 1) := by decide +kernel
theorem dX0_keysOfDrawnStops_29 : decode cX0_keysOfDrawnStops 29 = .ok (.if_icmp .ne 12, 3) := by decide +kernel
theorem dX0_keysOfDrawnStops_32 : decode cX0_keysOfDrawnStops 32 = .ok (.lload_n 2, 1) := by decide +kernel
theorem dX0_keysOfDrawnStops_33 : decode cX0_keysOfDrawnStops 33 = .ok (.aload_n 0, 1) := by decide +kernel
theorem dX0_keysOfDrawnStops_34 : decode cX0_keysOfDrawnStops 34 = .ok (.iload 4, 2) := by decide +kernel
theorem dX0_keysOfDrawnStops_36 : decode cX0_keysOfDrawnStops 36 = .ok (.invokevirtual 185, 3) := by decide +kernel
theorem dX0_keysOfDrawnStops_39 : decode cX0_keysOfDrawnStops 39 = .ok (.lor, 1) := by decide +kernel
theorem dX0_keysOfDrawnStops_40 : decode cX0_keysOfDrawnStops 40 = .ok (.lstore_n 2, 1) := by decide +kernel
theorem dX0_keysOfDrawnStops_41 : decode cX0_keysOfDrawnStops 41 = .ok (.iinc 4 1, 3) := by decide +kernel
theorem dX0_keysOfDrawnStops_44 : decode cX0_keysOfDrawnStops 44 = .ok (.goto (-39), 3) := by decide +kernel
theorem dX0_keysOfDrawnStops_47 : decode cX0_keysOfDrawnStops 47 = .ok (.lload_n 2, 1) := by decide +kernel
theorem dX0_keysOfDrawnStops_48 : decode cX0_keysOfDrawnStops 48 = .ok (.lreturn, 1) := by decide +kernel
theorem dX0_keysReachedBy_0 : decode cX0_keysReachedBy 0 = .ok (.lconst 0, 1) := by decide +kernel
theorem dX0_keysReachedBy_1 : decode cX0_keysReachedBy 1 = .ok (.lstore_n 2, 1) := by decide +kernel
theorem dX0_keysReachedBy_2 : decode cX0_keysReachedBy 2 = .ok (.iconst 0, 1) := by decide +kernel
theorem dX0_keysReachedBy_3 : decode cX0_keysReachedBy 3 = .ok (.istore 4, 2) := by decide +kernel
theorem dX0_keysReachedBy_5 : decode cX0_keysReachedBy 5 = .ok (.iload 4, 2) := by decide +kernel
theorem dX0_keysReachedBy_7 : decode cX0_keysReachedBy 7 = .ok (.iconst 3, 1) := by decide +kernel
theorem dX0_keysReachedBy_8 : decode cX0_keysReachedBy 8 = .ok (.if_icmp .ge 28, 3) := by decide +kernel
theorem dX0_keysReachedBy_11 : decode cX0_keysReachedBy 11 = .ok (.aload_n 0, 1) := by decide +kernel
theorem dX0_keysReachedBy_12 : decode cX0_keysReachedBy 12 = .ok (.getfield 24, 3) := by decide +kernel
theorem dX0_keysReachedBy_15 : decode cX0_keysReachedBy 15 = .ok (.iload_n 1, 1) := by decide +kernel
theorem dX0_keysReachedBy_16 : decode cX0_keysReachedBy 16 = .ok (.iaload, 1) := by decide +kernel
theorem dX0_keysReachedBy_17 : decode cX0_keysReachedBy 17 = .ok (.iload 4, 2) := by decide +kernel
theorem dX0_keysReachedBy_19 : decode cX0_keysReachedBy 19 = .ok (.if_icmp .ne 11, 3) := by decide +kernel
theorem dX0_keysReachedBy_22 : decode cX0_keysReachedBy 22 = .ok (.aload_n 0, 1) := by decide +kernel
theorem dX0_keysReachedBy_23 : decode cX0_keysReachedBy 23 = .ok (.getfield 46, 3) := by decide +kernel
theorem dX0_keysReachedBy_26 : decode cX0_keysReachedBy 26 = .ok (.iload 4, 2) := by decide +kernel
theorem dX0_keysReachedBy_28 : decode cX0_keysReachedBy 28 = .ok (.laload, 1) := by decide +kernel
theorem dX0_keysReachedBy_29 : decode cX0_keysReachedBy 29 = .ok (.lstore_n 2, 1) := by decide +kernel
theorem dX0_keysReachedBy_30 : decode cX0_keysReachedBy 30 = .ok (.iinc 4 1, 3) := by decide +kernel
theorem dX0_keysReachedBy_33 : decode cX0_keysReachedBy 33 = .ok (.goto (-28), 3) := by decide +kernel
theorem dX0_keysReachedBy_36 : decode cX0_keysReachedBy 36 = .ok (.lload_n 2, 1) := by decide +kernel
theorem dX0_keysReachedBy_37 : decode cX0_keysReachedBy 37 = .ok (.lreturn, 1) := by decide +kernel
set_option maxRecDepth 20000 in
theorem ggX0_countSounding_J13_bitCount_95d88 : GoodIn wsX0_countSounding wsJ13_bitCount_95d88 := goodIn_r _ [5, 6, 7, 8] (by decide +kernel) (by decide +kernel)
set_option maxRecDepth 20000 in
theorem gX0_countSounding_J13_bitCount_95d88 : GoodIn wsX0_countSounding (va_wsS RX0 124 yJ13_bitCount_95d88 wsJ13_bitCount_95d88) := goodIn_app (goodIn_of _ (by decide +kernel)) ggX0_countSounding_J13_bitCount_95d88
theorem dX0_countSounding_0 : decode cX0_countSounding 0 = .ok (.iconst 0, 1) := by decide +kernel
theorem dX0_countSounding_1 : decode cX0_countSounding 1 = .ok (.istore_n 1, 1) := by decide +kernel
theorem dX0_countSounding_2 : decode cX0_countSounding 2 = .ok (.iconst 0, 1) := by decide +kernel
theorem dX0_countSounding_3 : decode cX0_countSounding 3 = .ok (.istore_n 2, 1) := by decide +kernel
theorem dX0_countSounding_4 : decode cX0_countSounding 4 = .ok (.iload_n 2, 1) := by decide +kernel
theorem dX0_countSounding_5 : decode cX0_countSounding 5 = .ok (.bipush 6, 2) := by decide +kernel
theorem dX0_countSounding_7 : decode cX0_countSounding 7 = .ok (.if_icmp .ge 21, 3) := by decide +kernel
theorem dX0_countSounding_10 : decode cX0_countSounding 10 = .ok (.iload_n 1, 1) := by decide +kernel
theorem dX0_countSounding_11 : decode cX0_countSounding 11 = .ok (.aload_n 0, 1) := by decide +kernel
theorem dX0_countSounding_12 : decode cX0_countSounding 12 = .ok (.getfield 49, 3) := by decide +kernel
theorem dX0_countSounding_15 : decode cX0_countSounding 15 = .ok (.iload_n 2, 1) := by decide +kernel
theorem dX0_countSounding_16 : decode cX0_countSounding 16 = .ok (.laload, 1) := by decide +kernel
theorem dX0_countSounding_17 : decode cX0_countSounding 17 = .ok (.invokestatic 124, 3) := by decide +kernel
theorem dX0_countSounding_20 : decode cX0_countSounding 20 = .ok (.iadd, 1) := by decide +kernel
theorem dX0_countSounding_21 : decode cX0_countSounding 21 = .ok (.istore_n 1, 1) := by decide +kernel
theorem dX0_countSounding_22 : decode cX0_countSounding 22 = .ok (.iinc 2 1, 3) := by decide +kernel
theorem dX0_countSounding_25 : decode cX0_countSounding 25 = .ok (.goto (-21), 3) := by decide +kernel
theorem dX0_countSounding_28 : decode cX0_countSounding 28 = .ok (.iload_n 1, 1) := by decide +kernel
theorem dX0_countSounding_29 : decode cX0_countSounding 29 = .ok (.ireturn, 1) := by decide +kernel
set_option maxRecDepth 20000 in
theorem ggX0_mutePipes_X0_keyBit : GoodIn wsX0_mutePipes wsX0_keyBit := goodIn_r _ [5] (by decide +kernel) (by decide +kernel)
set_option maxRecDepth 20000 in
theorem gX0_mutePipes_X0_keyBit : GoodIn wsX0_mutePipes (va_wsS RX0 120 yX0_keyBit wsX0_keyBit) := goodIn_app (goodIn_of _ (by decide +kernel)) ggX0_mutePipes_X0_keyBit
theorem dX0_mutePipes_0 : decode cX0_mutePipes 0 = .ok (.lconst 0, 1) := by decide +kernel
theorem dX0_mutePipes_1 : decode cX0_mutePipes 1 = .ok (.lstore_n 2, 1) := by decide +kernel
theorem dX0_mutePipes_2 : decode cX0_mutePipes 2 = .ok (.iconst 0, 1) := by decide +kernel
theorem dX0_mutePipes_3 : decode cX0_mutePipes 3 = .ok (.istore 4, 2) := by decide +kernel
theorem dX0_mutePipes_5 : decode cX0_mutePipes 5 = .ok (.iload 4, 2) := by decide +kernel
theorem dX0_mutePipes_7 : decode cX0_mutePipes 7 = .ok (.bipush 61, 2) := by decide +kernel
theorem dX0_mutePipes_9 : decode cX0_mutePipes 9 = .ok (.if_icmp .ge 31, 3) := by decide +kernel
theorem dX0_mutePipes_12 : decode cX0_mutePipes 12 = .ok (.aload_n 0, 1) := by decide +kernel
theorem dX0_mutePipes_13 : decode cX0_mutePipes 13 = .ok (.getfield 21, 3) := by decide +kernel
theorem dX0_mutePipes_16 : decode cX0_mutePipes 16 = .ok (.iload_n 1, 1) := by decide +kernel
theorem dX0_mutePipes_17 : decode cX0_mutePipes 17 = .ok (.aaload, 1) := by decide +kernel
theorem dX0_mutePipes_18 : decode cX0_mutePipes 18 = .ok (.iload 4, 2) := by decide +kernel
theorem dX0_mutePipes_20 : decode cX0_mutePipes 20 = .ok (.iaload, 1) := by decide +kernel
theorem dX0_mutePipes_21 : decode cX0_mutePipes 21 = .ok (.bipush 50, 2) := by decide +kernel
theorem dX0_mutePipes_23 : decode cX0_mutePipes 23 = .ok (.if_icmp .lt 11, 3) := by decide +kernel
theorem dX0_mutePipes_26 : decode cX0_mutePipes 26 = .ok (.lload_n 2, 1) := by decide +kernel
theorem dX0_mutePipes_27 : decode cX0_mutePipes 27 = .ok (.iload 4, 2) := by decide +kernel
theorem dX0_mutePipes_29 : decode cX0_mutePipes 29 = .ok (.invokestatic 120, 3) := by decide +kernel
theorem dX0_mutePipes_32 : decode cX0_mutePipes 32 = .ok (.lor, 1) := by decide +kernel
theorem dX0_mutePipes_33 : decode cX0_mutePipes 33 = .ok (.lstore_n 2, 1) := by decide +kernel
theorem dX0_mutePipes_34 : decode cX0_mutePipes 34 = .ok (.iinc 4 1, 3) := by decide +kernel
theorem dX0_mutePipes_37 : decode cX0_mutePipes 37 = .ok (.goto (-32), 3) := by decide +kernel
theorem dX0_mutePipes_40 : decode cX0_mutePipes 40 = .ok (.lload_n 2, 1) := by decide +kernel
theorem dX0_mutePipes_41 : decode cX0_mutePipes 41 = .ok (.lreturn, 1) := by decide +kernel
set_option maxRecDepth 20000 in
theorem ggX0_wearOut_X0_hasKey : GoodIn wsX0_wearOut wsX0_hasKey := goodIn_r _ [6, 7, 8, 5, 9] (by decide +kernel) (by decide +kernel)
set_option maxRecDepth 20000 in
theorem gX0_wearOut_X0_hasKey : GoodIn wsX0_wearOut (va_wsS RX0 116 yX0_hasKey wsX0_hasKey) := goodIn_app (goodIn_of _ (by decide +kernel)) ggX0_wearOut_X0_hasKey
theorem dX0_wearOut_0 : decode cX0_wearOut 0 = .ok (.iconst 0, 1) := by decide +kernel
theorem dX0_wearOut_1 : decode cX0_wearOut 1 = .ok (.istore_n 3, 1) := by decide +kernel
theorem dX0_wearOut_2 : decode cX0_wearOut 2 = .ok (.iload_n 3, 1) := by decide +kernel
theorem dX0_wearOut_3 : decode cX0_wearOut 3 = .ok (.bipush 61, 2) := by decide +kernel
theorem dX0_wearOut_5 : decode cX0_wearOut 5 = .ok (.if_icmp .ge 34, 3) := by decide +kernel
theorem dX0_wearOut_8 : decode cX0_wearOut 8 = .ok (.aload_n 0, 1) := by decide +kernel
theorem dX0_wearOut_9 : decode cX0_wearOut 9 = .ok (.getfield 49, 3) := by decide +kernel
theorem dX0_wearOut_12 : decode cX0_wearOut 12 = .ok (.iload_n 1, 1) := by decide +kernel
theorem dX0_wearOut_13 : decode cX0_wearOut 13 = .ok (.laload, 1) := by decide +kernel
theorem dX0_wearOut_14 : decode cX0_wearOut 14 = .ok (.iload_n 3, 1) := by decide +kernel
theorem dX0_wearOut_15 : decode cX0_wearOut 15 = .ok (.invokestatic 116, 3) := by decide +kernel
theorem dX0_wearOut_18 : decode cX0_wearOut 18 = .ok (.ifCond .eq 15, 3) := by decide +kernel
theorem dX0_wearOut_21 : decode cX0_wearOut 21 = .ok (.aload_n 0, 1) := by decide +kernel
theorem dX0_wearOut_22 : decode cX0_wearOut 22 = .ok (.getfield 21, 3) := by decide +kernel
theorem dX0_wearOut_25 : decode cX0_wearOut 25 = .ok (.iload_n 1, 1) := by decide +kernel
theorem dX0_wearOut_26 : decode cX0_wearOut 26 = .ok (.aaload, 1) := by decide +kernel
theorem dX0_wearOut_27 : decode cX0_wearOut 27 = .ok (.iload_n 3, 1) := by decide +kernel
theorem dX0_wearOut_28 : decode cX0_wearOut 28 = .ok (.dup2, 1) := by decide +kernel
theorem dX0_wearOut_29 : decode cX0_wearOut 29 = .ok (.iaload, 1) := by decide +kernel
theorem dX0_wearOut_30 : decode cX0_wearOut 30 = .ok (.iload_n 2, 1) := by decide +kernel
theorem dX0_wearOut_31 : decode cX0_wearOut 31 = .ok (.iadd, 1) := by decide +kernel
theorem dX0_wearOut_32 : decode cX0_wearOut 32 = .ok (.iastore, 1) := by decide +kernel
theorem dX0_wearOut_33 : decode cX0_wearOut 33 = .ok (.iinc 3 1, 3) := by decide +kernel
theorem dX0_wearOut_36 : decode cX0_wearOut 36 = .ok (.goto (-34), 3) := by decide +kernel
theorem dX0_wearOut_39 : decode cX0_wearOut 39 = .ok (.return_, 1) := by decide +kernel
set_option maxRecDepth 20000 in
theorem ggX0_windOfSounding_X0_hasKey : GoodIn wsX0_windOfSounding wsX0_hasKey := goodIn_r _ [6, 7, 8, 5, 9] (by decide +kernel) (by decide +kernel)
set_option maxRecDepth 20000 in
theorem gX0_windOfSounding_X0_hasKey : GoodIn wsX0_windOfSounding (va_wsS RX0 116 yX0_hasKey wsX0_hasKey) := goodIn_app (goodIn_of _ (by decide +kernel)) ggX0_windOfSounding_X0_hasKey
theorem dX0_windOfSounding_0 : decode cX0_windOfSounding 0 = .ok (.iconst 0, 1) := by decide +kernel
theorem dX0_windOfSounding_1 : decode cX0_windOfSounding 1 = .ok (.istore_n 1, 1) := by decide +kernel
theorem dX0_windOfSounding_2 : decode cX0_windOfSounding 2 = .ok (.iconst 0, 1) := by decide +kernel
theorem dX0_windOfSounding_3 : decode cX0_windOfSounding 3 = .ok (.istore_n 2, 1) := by decide +kernel
theorem dX0_windOfSounding_4 : decode cX0_windOfSounding 4 = .ok (.iload_n 2, 1) := by decide +kernel
theorem dX0_windOfSounding_5 : decode cX0_windOfSounding 5 = .ok (.bipush 6, 2) := by decide +kernel
theorem dX0_windOfSounding_7 : decode cX0_windOfSounding 7 = .ok (.if_icmp .ge 53, 3) := by decide +kernel
theorem dX0_windOfSounding_10 : decode cX0_windOfSounding 10 = .ok (.iconst 0, 1) := by decide +kernel
theorem dX0_windOfSounding_11 : decode cX0_windOfSounding 11 = .ok (.istore_n 3, 1) := by decide +kernel
theorem dX0_windOfSounding_12 : decode cX0_windOfSounding 12 = .ok (.iload_n 3, 1) := by decide +kernel
theorem dX0_windOfSounding_13 : decode cX0_windOfSounding 13 = .ok (.bipush 61, 2) := by decide +kernel
theorem dX0_windOfSounding_15 : decode cX0_windOfSounding 15 = .ok (.if_icmp .ge 39, 3) := by decide +kernel
theorem dX0_windOfSounding_18 : decode cX0_windOfSounding 18 = .ok (.aload_n 0, 1) := by decide +kernel
theorem dX0_windOfSounding_19 : decode cX0_windOfSounding 19 = .ok (.getfield 49, 3) := by decide +kernel
theorem dX0_windOfSounding_22 : decode cX0_windOfSounding 22 = .ok (.iload_n 2, 1) := by decide +kernel
theorem dX0_windOfSounding_23 : decode cX0_windOfSounding 23 = .ok (.laload, 1) := by decide +kernel
theorem dX0_windOfSounding_24 : decode cX0_windOfSounding 24 = .ok (.iload_n 3, 1) := by decide +kernel
theorem dX0_windOfSounding_25 : decode cX0_windOfSounding 25 = .ok (.invokestatic 116, 3) := by decide +kernel
theorem dX0_windOfSounding_28 : decode cX0_windOfSounding 28 = .ok (.ifCond .eq 20, 3) := by decide +kernel
theorem dX0_windOfSounding_31 : decode cX0_windOfSounding 31 = .ok (.iload_n 1, 1) := by decide +kernel
theorem dX0_windOfSounding_32 : decode cX0_windOfSounding 32 = .ok (.aload_n 0, 1) := by decide +kernel
theorem dX0_windOfSounding_33 : decode cX0_windOfSounding 33 = .ok (.getfield 13, 3) := by decide +kernel
theorem dX0_windOfSounding_36 : decode cX0_windOfSounding 36 = .ok (.iload_n 2, 1) := by decide +kernel
theorem dX0_windOfSounding_37 : decode cX0_windOfSounding 37 = .ok (.iaload, 1) := by decide +kernel
theorem dX0_windOfSounding_38 : decode cX0_windOfSounding 38 = .ok (.bipush 60, 2) := by decide +kernel
theorem dX0_windOfSounding_40 : decode cX0_windOfSounding 40 = .ok (.iload_n 3, 1) := by decide +kernel
theorem dX0_windOfSounding_41 : decode cX0_windOfSounding 41 = .ok (.isub, 1) := by decide +kernel
theorem dX0_windOfSounding_42 : decode cX0_windOfSounding 42 = .ok (.bipush 12, 2) := by decide +kernel
theorem dX0_windOfSounding_44 : decode cX0_windOfSounding 44 = .ok (.idiv, 1) := by decide +kernel
theorem dX0_windOfSounding_45 : decode cX0_windOfSounding 45 = .ok (.iadd, 1) := by decide +kernel
theorem dX0_windOfSounding_46 : decode cX0_windOfSounding 46 = .ok (.iadd, 1) := by decide +kernel
theorem dX0_windOfSounding_47 : decode cX0_windOfSounding 47 = .ok (.istore_n 1, 1) := by decide +kernel
theorem dX0_windOfSounding_48 : decode cX0_windOfSounding 48 = .ok (.iinc 3 1, 3) := by decide +kernel
theorem dX0_windOfSounding_51 : decode cX0_windOfSounding 51 = .ok (.goto (-39), 3) := by decide +kernel
theorem dX0_windOfSounding_54 : decode cX0_windOfSounding 54 = .ok (.iinc 2 1, 3) := by decide +kernel
theorem dX0_windOfSounding_57 : decode cX0_windOfSounding 57 = .ok (.goto (-53), 3) := by decide +kernel
theorem dX0_windOfSounding_60 : decode cX0_windOfSounding 60 = .ok (.iload_n 1, 1) := by decide +kernel
theorem dX0_windOfSounding_61 : decode cX0_windOfSounding 61 = .ok (.ireturn, 1) := by decide +kernel
theorem dX0_stepOfSag_0 : decode cX0_stepOfSag 0 = .ok (.iload_n 1, 1) := by decide +kernel
theorem dX0_stepOfSag_1 : decode cX0_stepOfSag 1 = .ok (.aload_n 0, 1) := by decide +kernel
theorem dX0_stepOfSag_2 : decode cX0_stepOfSag 2 = .ok (.getfield 55, 3) := by decide +kernel
theorem dX0_stepOfSag_5 : decode cX0_stepOfSag 5 = .ok (.if_icmp .le 12, 3) := by decide +kernel
theorem dX0_stepOfSag_8 : decode cX0_stepOfSag 8 = .ok (.aload_n 0, 1) := by decide +kernel
theorem dX0_stepOfSag_9 : decode cX0_stepOfSag 9 = .ok (.getfield 55, 3) := by decide +kernel
theorem dX0_stepOfSag_12 : decode cX0_stepOfSag 12 = .ok (.bipush 10, 2) := by decide +kernel
theorem dX0_stepOfSag_14 : decode cX0_stepOfSag 14 = .ok (.if_icmp .ge 5, 3) := by decide +kernel
theorem dX0_stepOfSag_17 : decode cX0_stepOfSag 17 = .ok (.iconst 0, 1) := by decide +kernel
theorem dX0_stepOfSag_18 : decode cX0_stepOfSag 18 = .ok (.ireturn, 1) := by decide +kernel
theorem dX0_stepOfSag_19 : decode cX0_stepOfSag 19 = .ok (.bipush 10, 2) := by decide +kernel
theorem dX0_stepOfSag_21 : decode cX0_stepOfSag 21 = .ok (.iconst 1, 1) := by decide +kernel
theorem dX0_stepOfSag_22 : decode cX0_stepOfSag 22 = .ok (.bipush 10, 2) := by decide +kernel
theorem dX0_stepOfSag_24 : decode cX0_stepOfSag 24 = .ok (.iload_n 1, 1) := by decide +kernel
theorem dX0_stepOfSag_25 : decode cX0_stepOfSag 25 = .ok (.aload_n 0, 1) := by decide +kernel
theorem dX0_stepOfSag_26 : decode cX0_stepOfSag 26 = .ok (.getfield 55, 3) := by decide +kernel
theorem dX0_stepOfSag_29 : decode cX0_stepOfSag 29 = .ok (.isub, 1) := by decide +kernel
theorem dX0_stepOfSag_30 : decode cX0_stepOfSag 30 = .ok (.imul, 1) := by decide +kernel
theorem dX0_stepOfSag_31 : decode cX0_stepOfSag 31 = .ok (.aload_n 0, 1) := by decide +kernel
theorem dX0_stepOfSag_32 : decode cX0_stepOfSag 32 = .ok (.getfield 55, 3) := by decide +kernel
theorem dX0_stepOfSag_35 : decode cX0_stepOfSag 35 = .ok (.idiv, 1) := by decide +kernel
theorem dX0_stepOfSag_36 : decode cX0_stepOfSag 36 = .ok (.iadd, 1) := by decide +kernel
theorem dX0_stepOfSag_37 : decode cX0_stepOfSag 37 = .ok (.invokestatic 157, 3) := by decide +kernel
theorem dX0_stepOfSag_40 : decode cX0_stepOfSag 40 = .ok (.ireturn, 1) := by decide +kernel
set_option maxRecDepth 20000 in
theorem ggX0_fallOfSag_X0_windOfSounding : GoodIn wsX0_fallOfSag wsX0_windOfSounding := goodIn_r _ [6, 7, 8, 9, 10, 5, 11, 12, 13, 14, 24, 25, 26, 27, 28, 29, 30, 31, 32, 33, 34, 35, 36, 37, 38] (by decide +kernel) (by decide +kernel)
set_option maxRecDepth 20000 in
theorem gX0_fallOfSag_X0_windOfSounding : GoodIn wsX0_fallOfSag (wsV RX0 142 RX0 yX0_windOfSounding wsX0_windOfSounding) := goodIn_app (goodIn_of _ (by decide +kernel)) ggX0_fallOfSag_X0_windOfSounding
set_option maxRecDepth 20000 in
theorem ggX0_fallOfSag_X0_stepOfSag : GoodIn wsX0_fallOfSag wsX0_stepOfSag := goodIn_r _ [18, 19, 20, 21, 22, 23, 24, 25, 26, 27, 28, 29, 30, 31, 32, 33, 34, 35, 36, 37, 38] (by decide +kernel) (by decide +kernel)
set_option maxRecDepth 20000 in
theorem gX0_fallOfSag_X0_stepOfSag : GoodIn wsX0_fallOfSag (wsV RX0 145 RX0 yX0_stepOfSag wsX0_stepOfSag) := goodIn_app (goodIn_of _ (by decide +kernel)) ggX0_fallOfSag_X0_stepOfSag
theorem dX0_fallOfSag_0 : decode cX0_fallOfSag 0 = .ok (.aload_n 0, 1) := by decide +kernel
theorem dX0_fallOfSag_1 : decode cX0_fallOfSag 1 = .ok (.aload_n 0, 1) := by decide +kernel
theorem dX0_fallOfSag_2 : decode cX0_fallOfSag 2 = .ok (.invokevirtual 142, 3) := by decide +kernel
theorem dX0_fallOfSag_5 : decode cX0_fallOfSag 5 = .ok (.invokevirtual 145, 3) := by decide +kernel
theorem dX0_fallOfSag_8 : decode cX0_fallOfSag 8 = .ok (.istore_n 1, 1) := by decide +kernel
theorem dX0_fallOfSag_9 : decode cX0_fallOfSag 9 = .ok (.iload_n 1, 1) := by decide +kernel
theorem dX0_fallOfSag_10 : decode cX0_fallOfSag 10 = .ok (.ifCond .lt 18, 3) := by decide +kernel
theorem dX0_fallOfSag_13 : decode cX0_fallOfSag 13 = .ok (.iload_n 1, 1) := by decide +kernel
theorem dX0_fallOfSag_14 : decode cX0_fallOfSag 14 = .ok (.bipush 10, 2) := by decide +kernel
theorem dX0_fallOfSag_16 : decode cX0_fallOfSag 16 = .ok (.if_icmp .gt 12, 3) := by decide +kernel
theorem dX0_fallOfSag_19 : decode cX0_fallOfSag 19 = .ok (.aload_n 0, 1) := by decide +kernel
theorem dX0_fallOfSag_20 : decode cX0_fallOfSag 20 = .ok (.getfield 40, 3) := by decide +kernel
theorem dX0_fallOfSag_23 : decode cX0_fallOfSag 23 = .ok (.iload_n 1, 1) := by decide +kernel
theorem dX0_fallOfSag_24 : decode cX0_fallOfSag 24 = .ok (.iaload, 1) := by decide +kernel
theorem dX0_fallOfSag_25 : decode cX0_fallOfSag 25 = .ok (.goto 4, 3) := by decide +kernel
theorem dX0_fallOfSag_28 : decode cX0_fallOfSag 28 = .ok (.iconst 0, 1) := by decide +kernel
theorem dX0_fallOfSag_29 : decode cX0_fallOfSag 29 = .ok (.ireturn, 1) := by decide +kernel
theorem dX0_pitchWithoutSag_0 : decode cX0_pitchWithoutSag 0 = .ok (.bipush 100, 2) := by decide +kernel
theorem dX0_pitchWithoutSag_2 : decode cX0_pitchWithoutSag 2 = .ok (.iload_n 2, 1) := by decide +kernel
theorem dX0_pitchWithoutSag_3 : decode cX0_pitchWithoutSag 3 = .ok (.aload_n 0, 1) := by decide +kernel
theorem dX0_pitchWithoutSag_4 : decode cX0_pitchWithoutSag 4 = .ok (.getfield 9, 3) := by decide +kernel
theorem dX0_pitchWithoutSag_7 : decode cX0_pitchWithoutSag 7 = .ok (.iload_n 1, 1) := by decide +kernel
theorem dX0_pitchWithoutSag_8 : decode cX0_pitchWithoutSag 8 = .ok (.iaload, 1) := by decide +kernel
theorem dX0_pitchWithoutSag_9 : decode cX0_pitchWithoutSag 9 = .ok (.iadd, 1) := by decide +kernel
theorem dX0_pitchWithoutSag_10 : decode cX0_pitchWithoutSag 10 = .ok (.imul, 1) := by decide +kernel
theorem dX0_pitchWithoutSag_11 : decode cX0_pitchWithoutSag 11 = .ok (.aload_n 0, 1) := by decide +kernel
theorem dX0_pitchWithoutSag_12 : decode cX0_pitchWithoutSag 12 = .ok (.getfield 43, 3) := by decide +kernel
theorem dX0_pitchWithoutSag_15 : decode cX0_pitchWithoutSag 15 = .ok (.iload_n 2, 1) := by decide +kernel
theorem dX0_pitchWithoutSag_16 : decode cX0_pitchWithoutSag 16 = .ok (.bipush 12, 2) := by decide +kernel
theorem dX0_pitchWithoutSag_18 : decode cX0_pitchWithoutSag 18 = .ok (.irem, 1) := by decide +kernel
theorem dX0_pitchWithoutSag_19 : decode cX0_pitchWithoutSag 19 = .ok (.iaload, 1) := by decide +kernel
theorem dX0_pitchWithoutSag_20 : decode cX0_pitchWithoutSag 20 = .ok (.iadd, 1) := by decide +kernel
theorem dX0_pitchWithoutSag_21 : decode cX0_pitchWithoutSag 21 = .ok (.aload_n 0, 1) := by decide +kernel
theorem dX0_pitchWithoutSag_22 : decode cX0_pitchWithoutSag 22 = .ok (.getfield 16, 3) := by decide +kernel
theorem dX0_pitchWithoutSag_25 : decode cX0_pitchWithoutSag 25 = .ok (.iload_n 1, 1) := by decide +kernel
theorem dX0_pitchWithoutSag_26 : decode cX0_pitchWithoutSag 26 = .ok (.iaload, 1) := by decide +kernel
theorem dX0_pitchWithoutSag_27 : decode cX0_pitchWithoutSag 27 = .ok (.iadd, 1) := by decide +kernel
theorem dX0_pitchWithoutSag_28 : decode cX0_pitchWithoutSag 28 = .ok (.ireturn, 1) := by decide +kernel
