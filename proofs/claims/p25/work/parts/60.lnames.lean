theorem dL_couples_0 : decode cL_couples 0 = .ok (.aload_n 0, 1) := by decide +kernel
theorem dL_couples_1 : decode cL_couples 1 = .ok (.iload_n 1, 1) := by decide +kernel
theorem dL_couples_2 : decode cL_couples 2 = .ok (.iload_n 2, 1) := by decide +kernel
theorem dL_couples_3 : decode cL_couples 3 = .ok (.iload_n 3, 1) := by decide +kernel
theorem dL_couples_4 : decode cL_couples 4 = .ok (.invokevirtual 7, 3) := by decide +kernel
theorem dL_couples_7 : decode cL_couples 7 = .ok (.ireturn, 1) := by decide +kernel
theorem dL_couples_8 : decode cL_couples 8 = .ok (.astore 4, 2) := by decide +kernel
theorem dL_couples_10 : decode cL_couples 10 = .ok (.bipush (-2), 2) := by decide +kernel
theorem dL_couples_12 : decode cL_couples 12 = .ok (.ireturn, 1) := by decide +kernel
theorem dL_couples_13 : decode cL_couples 13 = .ok (.astore 4, 2) := by decide +kernel
theorem dL_couples_15 : decode cL_couples 15 = .ok (.bipush (-3), 2) := by decide +kernel
theorem dL_couples_17 : decode cL_couples 17 = .ok (.ireturn, 1) := by decide +kernel
set_option maxRecDepth 20000 in
theorem ggL_stops_X0_setStop : GoodIn wsL_stops wsX0_setStop := goodIn_ca (goodIn_ca (goodIn_r _ [6, 7, 8, 9, 10, 11, 12, 5, 13, 14, 15, 16, 17, 18, 19, 20, 21, 22, 23, 24, 25, 26, 27, 28, 29, 30, 31, 32, 33, 34, 35, 36, 37, 38, 39, 40, 41, 42, 43, 44] (by decide +kernel) (by decide +kernel)) (goodIn_sub (fun _ h => List.mem_cons_of_mem _ (List.mem_append_left _ (List.mem_append_right _ h))) (by decide +kernel))) (goodIn_sub (fun _ h => List.mem_cons_of_mem _ (List.mem_append_right _ h)) (by decide +kernel))
set_option maxRecDepth 20000 in
theorem gL_stops_X0_setStop : GoodIn wsL_stops (wsV RL 17 RX0 yX0_setStop wsX0_setStop) := goodIn_app (goodIn_of _ (by decide +kernel)) ggL_stops_X0_setStop
theorem dL_stops_0 : decode cL_stops 0 = .ok (.aload_n 0, 1) := by decide +kernel
theorem dL_stops_1 : decode cL_stops 1 = .ok (.iload_n 1, 1) := by decide +kernel
theorem dL_stops_2 : decode cL_stops 2 = .ok (.iload_n 2, 1) := by decide +kernel
theorem dL_stops_3 : decode cL_stops 3 = .ok (.iload_n 3, 1) := by decide +kernel
theorem dL_stops_4 : decode cL_stops 4 = .ok (.invokevirtual 17, 3) := by decide +kernel
theorem dL_stops_7 : decode cL_stops 7 = .ok (.iconst 0, 1) := by decide +kernel
theorem dL_stops_8 : decode cL_stops 8 = .ok (.ireturn, 1) := by decide +kernel
theorem dL_stops_9 : decode cL_stops 9 = .ok (.astore 4, 2) := by decide +kernel
theorem dL_stops_11 : decode cL_stops 11 = .ok (.bipush (-3), 2) := by decide +kernel
theorem dL_stops_13 : decode cL_stops 13 = .ok (.ireturn, 1) := by decide +kernel
set_option maxRecDepth 20000 in
theorem ggL_pitch_X0_pitch : GoodIn wsL_pitch wsX0_pitch := goodIn_ca (goodIn_ca (goodIn_r _ [7, 8, 9, 10, 11, 12, 6, 13, 14, 15, 16, 17, 18, 19, 20, 21, 22, 23, 24, 25, 26, 27, 28, 29, 30, 31, 32, 33, 34, 35, 36, 37, 38, 39, 40, 41, 42, 43, 44, 45, 46, 47, 48, 49, 50, 51, 52, 53, 54, 55, 56, 57, 58, 59, 60, 61, 62, 63, 64, 65, 66, 67, 68, 69, 70, 71, 72, 73, 74, 75, 76, 77, 78, 79, 80, 81, 82, 83, 84, 85, 86, 87, 88, 89, 90, 91, 92, 93, 94, 95, 96, 97, 98, 99, 100, 101, 102, 103, 104, 105, 106, 107, 108, 109, 110, 111, 112, 113, 114, 115, 116] (by decide +kernel) (by decide +kernel)) (goodIn_sub (fun _ h => List.mem_cons_of_mem _ (List.mem_append_left _ (List.mem_append_right _ h))) (by decide +kernel))) (goodIn_sub (fun _ h => List.mem_cons_of_mem _ (List.mem_append_right _ h)) (by decide +kernel))
set_option maxRecDepth 20000 in
theorem gL_pitch_X0_pitch : GoodIn wsL_pitch (wsV RL 21 RX0 yX0_pitch wsX0_pitch) := goodIn_app (goodIn_of _ (by decide +kernel)) ggL_pitch_X0_pitch
theorem dL_pitch_0 : decode cL_pitch 0 = .ok (.aload_n 0, 1) := by decide +kernel
theorem dL_pitch_1 : decode cL_pitch 1 = .ok (.iload_n 1, 1) := by decide +kernel
theorem dL_pitch_2 : decode cL_pitch 2 = .ok (.iload_n 2, 1) := by decide +kernel
theorem dL_pitch_3 : decode cL_pitch 3 = .ok (.invokevirtual 21, 3) := by decide +kernel
theorem dL_pitch_6 : decode cL_pitch 6 = .ok (.ireturn, 1) := by decide +kernel
theorem dL_pitch_7 : decode cL_pitch 7 = .ok (.astore_n 3, 1) := by decide +kernel
theorem dL_pitch_8 : decode cL_pitch 8 = .ok (.ldc 25, 2) := by decide +kernel
theorem dL_pitch_10 : decode cL_pitch 10 = .ok (.ireturn, 1) := by decide +kernel
set_option maxRecDepth 20000 in
theorem ggL_isWhole_X0_sounds : GoodIn wsL_isWhole wsX0_sounds := goodIn_ca (goodIn_r _ [7, 8, 9, 10, 6, 11, 12, 13, 14, 15, 16, 17, 18, 19, 20, 21, 22, 23, 24, 25, 26, 27, 28, 29, 30, 31, 32, 33, 34, 35, 36, 37, 38, 39, 40, 41, 42, 43, 44, 45, 46, 47, 48, 49, 50, 51, 52, 53, 54, 55, 56, 57, 58, 59, 60, 61, 62, 63, 64, 65, 66, 67, 68, 69, 70, 71, 72, 73, 142, 143, 144, 145, 146, 147, 148, 149, 150, 151, 152, 153, 154, 155, 156] (by decide +kernel) (by decide +kernel)) (goodIn_sub (fun _ h => List.mem_cons_of_mem _ (List.mem_append_left _ (List.mem_append_right _ h))) (by decide +kernel))
set_option maxRecDepth 20000 in
theorem gL_isWhole_X0_sounds : GoodIn wsL_isWhole (wsV RL 27 RX0 yX0_sounds wsX0_sounds) := goodIn_app (goodIn_of _ (by decide +kernel)) ggL_isWhole_X0_sounds
set_option maxRecDepth 20000 in
theorem ggL_isWhole_L_pitch : GoodIn wsL_isWhole wsL_pitch := goodIn_ca (goodIn_ca (goodIn_r _ [77, 78, 2, 79, 80, 81, 6, 82, 83, 84, 8, 9, 10, 11, 12, 13, 14, 15, 16, 17, 18, 19, 20, 21, 22, 23, 24, 25, 26, 27, 28, 29, 30, 31, 32, 33, 34, 35, 36, 37, 38, 39, 40, 41, 42, 43, 44, 45, 46, 47, 48, 49, 50, 51, 52, 53, 54, 55, 56, 57, 58, 59, 60, 61, 62, 63, 64, 65, 66, 67, 68, 69, 70, 71, 72, 73, 85, 86, 87, 88, 89, 90, 91, 92, 93, 94, 95, 96, 97, 98, 99, 100, 101, 102, 103, 104, 105, 106, 107, 108, 109, 110, 142, 143, 144, 145, 146, 147, 148, 149, 150, 151, 152, 153, 154, 155, 156] (by decide +kernel) (by decide +kernel)) (goodIn_sub (fun _ h => List.mem_cons_of_mem _ (List.mem_append_right _ h)) (by decide +kernel))) (goodIn_sub (fun _ h => List.mem_cons_of_mem _ (List.mem_append_left _ (List.mem_append_right _ h))) (by decide +kernel))
set_option maxRecDepth 20000 in
theorem gL_isWhole_L_pitch : GoodIn wsL_isWhole (va_wsS RL 31 yL_pitch wsL_pitch) := goodIn_app (goodIn_of _ (by decide +kernel)) ggL_isWhole_L_pitch
set_option maxRecDepth 20000 in
theorem ggL_isWhole_X0_wear : GoodIn wsL_isWhole wsX0_wear := goodIn_ca (goodIn_r _ [114, 67, 9, 10, 6, 11, 12, 13, 14, 15, 16, 17, 18, 19, 142, 143, 144, 145, 146, 147, 148, 149, 150, 151, 152, 153, 154, 155, 156] (by decide +kernel) (by decide +kernel)) (goodIn_sub (fun _ h => List.mem_cons_of_mem _ (List.mem_append_left _ (List.mem_append_right _ h))) (by decide +kernel))
set_option maxRecDepth 20000 in
theorem gL_isWhole_X0_wear : GoodIn wsL_isWhole (wsV RL 36 RX0 yX0_wear wsX0_wear) := goodIn_app (goodIn_of _ (by decide +kernel)) ggL_isWhole_X0_wear
set_option maxRecDepth 20000 in
theorem ggL_isWhole_X0_need : GoodIn wsL_isWhole wsX0_need := goodIn_r _ [118, 20, 21, 22, 6, 23, 24, 25, 26, 27, 8, 28, 29, 30, 31, 32, 33, 34, 35, 36, 37, 38, 39, 40, 41, 42, 43, 44, 45, 46, 47, 48, 49, 50, 51, 52, 53, 54, 55, 56, 57, 58, 59, 60, 61, 62, 63, 64, 65, 66, 67, 68, 69, 70, 97, 98, 99, 100, 101, 71, 72, 73, 142, 143, 144, 145, 146, 147, 148, 149, 150, 151, 152, 153, 154, 155, 156] (by decide +kernel) (by decide +kernel)
set_option maxRecDepth 20000 in
theorem gL_isWhole_X0_need : GoodIn wsL_isWhole (wsV RL 39 RX0 yX0_need wsX0_need) := goodIn_app (goodIn_of _ (by decide +kernel)) ggL_isWhole_X0_need
set_option maxRecDepth 20000 in
theorem ggL_isWhole_X0_pipes : GoodIn wsL_isWhole wsX0_pipes := goodIn_r _ [122, 20, 21, 22, 6, 23, 24, 25, 26, 27, 8, 28, 29, 30, 31, 32, 33, 34, 35, 36, 37, 38, 39, 40, 41, 42, 43, 44, 45, 46, 47, 48, 49, 50, 51, 52, 53, 54, 55, 56, 57, 58, 59, 60, 61, 62, 63, 64, 65, 66, 67, 68, 69, 70, 123, 124, 125, 126, 127, 128, 129, 130, 131, 132, 133, 142, 143, 144, 145, 146, 147, 148, 149, 150, 151, 152, 153, 154, 155, 156] (by decide +kernel) (by decide +kernel)
set_option maxRecDepth 20000 in
theorem gL_isWhole_X0_pipes : GoodIn wsL_isWhole (wsV RL 43 RX0 yX0_pipes wsX0_pipes) := goodIn_app (goodIn_of _ (by decide +kernel)) ggL_isWhole_X0_pipes
set_option maxRecDepth 20000 in
theorem ggL_isWhole_X0_lowest : GoodIn wsL_isWhole wsX0_lowest := goodIn_r _ [137, 8, 107, 108, 109, 110, 20, 21, 22, 6, 23, 24, 25, 26, 27, 28, 29, 30, 31, 32, 33, 34, 35, 36, 37, 38, 39, 40, 41, 42, 43, 44, 45, 46, 47, 48, 49, 50, 51, 52, 53, 54, 55, 56, 57, 58, 59, 60, 61, 62, 63, 64, 65, 66, 67, 68, 69, 70, 71, 72, 73, 85, 86, 87, 88, 89, 90, 91, 92, 93, 94, 95, 96, 97, 98, 99, 100, 101, 102, 103, 104, 105, 106, 142, 143, 144, 145, 146, 147, 148, 149, 150, 151, 152, 153, 154, 155, 156] (by decide +kernel) (by decide +kernel)
set_option maxRecDepth 20000 in
theorem gL_isWhole_X0_lowest : GoodIn wsL_isWhole (wsV RL 46 RX0 yX0_lowest wsX0_lowest) := goodIn_app (goodIn_of _ (by decide +kernel)) ggL_isWhole_X0_lowest
set_option maxRecDepth 20000 in
theorem ggL_isWhole_X0_sagStep : GoodIn wsL_isWhole wsX0_sagStep := goodIn_r _ [141, 20, 21, 22, 6, 23, 24, 25, 26, 27, 8, 28, 29, 30, 31, 32, 33, 34, 35, 36, 37, 38, 39, 40, 41, 42, 43, 44, 45, 46, 47, 48, 49, 50, 51, 52, 53, 54, 55, 56, 57, 58, 59, 60, 61, 62, 63, 64, 65, 66, 67, 68, 69, 70, 97, 98, 99, 100, 101, 71, 72, 73, 102, 103, 104, 105, 106, 107, 108, 109, 110, 142, 143, 144, 145, 146, 147, 148, 149, 150, 151, 152, 153, 154, 155, 156] (by decide +kernel) (by decide +kernel)
set_option maxRecDepth 20000 in
theorem gL_isWhole_X0_sagStep : GoodIn wsL_isWhole (wsV RL 49 RX0 yX0_sagStep wsX0_sagStep) := goodIn_app (goodIn_of _ (by decide +kernel)) ggL_isWhole_X0_sagStep
theorem dL_isWhole_0 : decode cL_isWhole 0 = .ok (.iconst 0, 1) := by decide +kernel
theorem dL_isWhole_1 : decode cL_isWhole 1 = .ok (.istore_n 3, 1) := by decide +kernel
theorem dL_isWhole_2 : decode cL_isWhole 2 = .ok (.iconst 0, 1) := by decide +kernel
theorem dL_isWhole_3 : decode cL_isWhole 3 = .ok (.istore 4, 2) := by decide +kernel
theorem dL_isWhole_5 : decode cL_isWhole 5 = .ok (.ldc 26, 2) := by decide +kernel
theorem dL_isWhole_7 : decode cL_isWhole 7 = .ok (.istore 5, 2) := by decide +kernel
theorem dL_isWhole_9 : decode cL_isWhole 9 = .ok (.iconst 1, 1) := by decide +kernel
theorem dL_isWhole_10 : decode cL_isWhole 10 = .ok (.istore 6, 2) := by decide +kernel
theorem dL_isWhole_12 : decode cL_isWhole 12 = .ok (.iconst 0, 1) := by decide +kernel
theorem dL_isWhole_13 : decode cL_isWhole 13 = .ok (.istore 7, 2) := by decide +kernel
theorem dL_isWhole_15 : decode cL_isWhole 15 = .ok (.iload 7, 2) := by decide +kernel
theorem dL_isWhole_17 : decode cL_isWhole 17 = .ok (.sipush 366, 3) := by decide +kernel
theorem dL_isWhole_20 : decode cL_isWhole 20 = .ok (.if_icmp .ge 156, 3) := by decide +kernel
theorem dL_isWhole_23 : decode cL_isWhole 23 = .ok (.iload 6, 2) := by decide +kernel
theorem dL_isWhole_25 : decode cL_isWhole 25 = .ok (.ifCond .eq 151, 3) := by decide +kernel
theorem dL_isWhole_28 : decode cL_isWhole 28 = .ok (.iload 7, 2) := by decide +kernel
theorem dL_isWhole_30 : decode cL_isWhole 30 = .ok (.bipush 61, 2) := by decide +kernel
theorem dL_isWhole_32 : decode cL_isWhole 32 = .ok (.idiv, 1) := by decide +kernel
theorem dL_isWhole_33 : decode cL_isWhole 33 = .ok (.istore 8, 2) := by decide +kernel
theorem dL_isWhole_35 : decode cL_isWhole 35 = .ok (.iload 7, 2) := by decide +kernel
theorem dL_isWhole_37 : decode cL_isWhole 37 = .ok (.bipush 61, 2) := by decide +kernel
theorem dL_isWhole_39 : decode cL_isWhole 39 = .ok (.irem, 1) := by decide +kernel
theorem dL_isWhole_40 : decode cL_isWhole 40 = .ok (.istore 9, 2) := by decide +kernel
theorem dL_isWhole_42 : decode cL_isWhole 42 = .ok (.aload_n 0, 1) := by decide +kernel
theorem dL_isWhole_43 : decode cL_isWhole 43 = .ok (.iload 8, 2) := by decide +kernel
theorem dL_isWhole_45 : decode cL_isWhole 45 = .ok (.iload 9, 2) := by decide +kernel
theorem dL_isWhole_47 : decode cL_isWhole 47 = .ok (.invokevirtual 27, 3) := by decide +kernel
theorem dL_isWhole_50 : decode cL_isWhole 50 = .ok (.istore 10, 2) := by decide +kernel
theorem dL_isWhole_52 : decode cL_isWhole 52 = .ok (.aload_n 0, 1) := by decide +kernel
theorem dL_isWhole_53 : decode cL_isWhole 53 = .ok (.iload 8, 2) := by decide +kernel
theorem dL_isWhole_55 : decode cL_isWhole 55 = .ok (.iload 9, 2) := by decide +kernel
theorem dL_isWhole_57 : decode cL_isWhole 57 = .ok (.invokestatic 31, 3) := by decide +kernel
theorem dL_isWhole_60 : decode cL_isWhole 60 = .ok (.istore 11, 2) := by decide +kernel
theorem dL_isWhole_62 : decode cL_isWhole 62 = .ok (.iload 10, 2) := by decide +kernel
theorem dL_isWhole_64 : decode cL_isWhole 64 = .ok (.ifCond .eq 31, 3) := by decide +kernel
theorem dL_isWhole_67 : decode cL_isWhole 67 = .ok (.aload_n 0, 1) := by decide +kernel
theorem dL_isWhole_68 : decode cL_isWhole 68 = .ok (.iload 8, 2) := by decide +kernel
theorem dL_isWhole_70 : decode cL_isWhole 70 = .ok (.iload 9, 2) := by decide +kernel
theorem dL_isWhole_72 : decode cL_isWhole 72 = .ok (.invokevirtual 36, 3) := by decide +kernel
theorem dL_isWhole_75 : decode cL_isWhole 75 = .ok (.bipush 50, 2) := by decide +kernel
theorem dL_isWhole_77 : decode cL_isWhole 77 = .ok (.if_icmp .ge 14, 3) := by decide +kernel
theorem dL_isWhole_80 : decode cL_isWhole 80 = .ok (.iload 11, 2) := by decide +kernel
theorem dL_isWhole_82 : decode cL_isWhole 82 = .ok (.ldc 25, 2) := by decide +kernel
theorem dL_isWhole_84 : decode cL_isWhole 84 = .ok (.if_icmp .le 7, 3) := by decide +kernel
theorem dL_isWhole_87 : decode cL_isWhole 87 = .ok (.iconst 1, 1) := by decide +kernel
theorem dL_isWhole_88 : decode cL_isWhole 88 = .ok (.goto 19, 3) := by decide +kernel
theorem dL_isWhole_91 : decode cL_isWhole 91 = .ok (.iconst 0, 1) := by decide +kernel
theorem dL_isWhole_92 : decode cL_isWhole 92 = .ok (.goto 15, 3) := by decide +kernel
theorem dL_isWhole_95 : decode cL_isWhole 95 = .ok (.iload 11, 2) := by decide +kernel
theorem dL_isWhole_97 : decode cL_isWhole 97 = .ok (.ldc 25, 2) := by decide +kernel
theorem dL_isWhole_99 : decode cL_isWhole 99 = .ok (.if_icmp .ne 7, 3) := by decide +kernel
theorem dL_isWhole_102 : decode cL_isWhole 102 = .ok (.iconst 1, 1) := by decide +kernel
theorem dL_isWhole_103 : decode cL_isWhole 103 = .ok (.goto 4, 3) := by decide +kernel
theorem dL_isWhole_106 : decode cL_isWhole 106 = .ok (.iconst 0, 1) := by decide +kernel
theorem dL_isWhole_107 : decode cL_isWhole 107 = .ok (.istore 6, 2) := by decide +kernel
theorem dL_isWhole_109 : decode cL_isWhole 109 = .ok (.iload 4, 2) := by decide +kernel
theorem dL_isWhole_111 : decode cL_isWhole 111 = .ok (.iload 10, 2) := by decide +kernel
theorem dL_isWhole_113 : decode cL_isWhole 113 = .ok (.ifCond .eq 7, 3) := by decide +kernel
theorem dL_isWhole_116 : decode cL_isWhole 116 = .ok (.iconst 1, 1) := by decide +kernel
theorem dL_isWhole_117 : decode cL_isWhole 117 = .ok (.goto 4, 3) := by decide +kernel
theorem dL_isWhole_120 : decode cL_isWhole 120 = .ok (.iconst 0, 1) := by decide +kernel
theorem dL_isWhole_121 : decode cL_isWhole 121 = .ok (.iadd, 1) := by decide +kernel
theorem dL_isWhole_122 : decode cL_isWhole 122 = .ok (.istore 4, 2) := by decide +kernel
theorem dL_isWhole_124 : decode cL_isWhole 124 = .ok (.iload_n 3, 1) := by decide +kernel
theorem dL_isWhole_125 : decode cL_isWhole 125 = .ok (.iload 10, 2) := by decide +kernel
theorem dL_isWhole_127 : decode cL_isWhole 127 = .ok (.ifCond .eq 19, 3) := by decide +kernel
theorem dL_isWhole_130 : decode cL_isWhole 130 = .ok (.aload_n 1, 1) := by decide +kernel
theorem dL_isWhole_131 : decode cL_isWhole 131 = .ok (.iload 8, 2) := by decide +kernel
theorem dL_isWhole_133 : decode cL_isWhole 133 = .ok (.iaload, 1) := by decide +kernel
theorem dL_isWhole_134 : decode cL_isWhole 134 = .ok (.bipush 60, 2) := by decide +kernel
theorem dL_isWhole_136 : decode cL_isWhole 136 = .ok (.iload 9, 2) := by decide +kernel
theorem dL_isWhole_138 : decode cL_isWhole 138 = .ok (.isub, 1) := by decide +kernel
theorem dL_isWhole_139 : decode cL_isWhole 139 = .ok (.bipush 12, 2) := by decide +kernel
theorem dL_isWhole_141 : decode cL_isWhole 141 = .ok (.idiv, 1) := by decide +kernel
theorem dL_isWhole_142 : decode cL_isWhole 142 = .ok (.iadd, 1) := by decide +kernel
theorem dL_isWhole_143 : decode cL_isWhole 143 = .ok (.goto 4, 3) := by decide +kernel
theorem dL_isWhole_146 : decode cL_isWhole 146 = .ok (.iconst 0, 1) := by decide +kernel
theorem dL_isWhole_147 : decode cL_isWhole 147 = .ok (.iadd, 1) := by decide +kernel
theorem dL_isWhole_148 : decode cL_isWhole 148 = .ok (.istore_n 3, 1) := by decide +kernel
theorem dL_isWhole_149 : decode cL_isWhole 149 = .ok (.iload 10, 2) := by decide +kernel
theorem dL_isWhole_151 : decode cL_isWhole 151 = .ok (.ifCond .eq 15, 3) := by decide +kernel
theorem dL_isWhole_154 : decode cL_isWhole 154 = .ok (.iload 11, 2) := by decide +kernel
theorem dL_isWhole_156 : decode cL_isWhole 156 = .ok (.iload 5, 2) := by decide +kernel
theorem dL_isWhole_158 : decode cL_isWhole 158 = .ok (.if_icmp .ge 8, 3) := by decide +kernel
theorem dL_isWhole_161 : decode cL_isWhole 161 = .ok (.iload 11, 2) := by decide +kernel
theorem dL_isWhole_163 : decode cL_isWhole 163 = .ok (.goto 5, 3) := by decide +kernel
theorem dL_isWhole_166 : decode cL_isWhole 166 = .ok (.iload 5, 2) := by decide +kernel
theorem dL_isWhole_168 : decode cL_isWhole 168 = .ok (.istore 5, 2) := by decide +kernel
theorem dL_isWhole_170 : decode cL_isWhole 170 = .ok (.iinc 7 1, 3) := by decide +kernel
theorem dL_isWhole_173 : decode cL_isWhole 173 = .ok (.goto (-158), 3) := by decide +kernel
theorem dL_isWhole_176 : decode cL_isWhole 176 = .ok (.iload_n 3, 1) := by decide +kernel
theorem dL_isWhole_177 : decode cL_isWhole 177 = .ok (.iload_n 2, 1) := by decide +kernel
theorem dL_isWhole_178 : decode cL_isWhole 178 = .ok (.if_icmp .gt 7, 3) := by decide +kernel
theorem dL_isWhole_181 : decode cL_isWhole 181 = .ok (.iconst 0, 1) := by decide +kernel
theorem dL_isWhole_182 : decode cL_isWhole 182 = .ok (.goto 13, 3) := by decide +kernel
theorem dL_isWhole_185 : decode cL_isWhole 185 = .ok (.iconst 1, 1) := by decide +kernel
theorem dL_isWhole_186 : decode cL_isWhole 186 = .ok (.bipush 10, 2) := by decide +kernel
theorem dL_isWhole_188 : decode cL_isWhole 188 = .ok (.iload_n 3, 1) := by decide +kernel
theorem dL_isWhole_189 : decode cL_isWhole 189 = .ok (.iload_n 2, 1) := by decide +kernel
theorem dL_isWhole_190 : decode cL_isWhole 190 = .ok (.isub, 1) := by decide +kernel
theorem dL_isWhole_191 : decode cL_isWhole 191 = .ok (.imul, 1) := by decide +kernel
theorem dL_isWhole_192 : decode cL_isWhole 192 = .ok (.iload_n 2, 1) := by decide +kernel
theorem dL_isWhole_193 : decode cL_isWhole 193 = .ok (.idiv, 1) := by decide +kernel
theorem dL_isWhole_194 : decode cL_isWhole 194 = .ok (.iadd, 1) := by decide +kernel
theorem dL_isWhole_195 : decode cL_isWhole 195 = .ok (.istore 7, 2) := by decide +kernel
theorem dL_isWhole_197 : decode cL_isWhole 197 = .ok (.iload 6, 2) := by decide +kernel
theorem dL_isWhole_199 : decode cL_isWhole 199 = .ok (.ifCond .eq 63, 3) := by decide +kernel
theorem dL_isWhole_202 : decode cL_isWhole 202 = .ok (.aload_n 0, 1) := by decide +kernel
theorem dL_isWhole_203 : decode cL_isWhole 203 = .ok (.invokevirtual 39, 3) := by decide +kernel
theorem dL_isWhole_206 : decode cL_isWhole 206 = .ok (.iload_n 3, 1) := by decide +kernel
theorem dL_isWhole_207 : decode cL_isWhole 207 = .ok (.if_icmp .ne 55, 3) := by decide +kernel
theorem dL_isWhole_210 : decode cL_isWhole 210 = .ok (.aload_n 0, 1) := by decide +kernel
theorem dL_isWhole_211 : decode cL_isWhole 211 = .ok (.invokevirtual 43, 3) := by decide +kernel
theorem dL_isWhole_214 : decode cL_isWhole 214 = .ok (.iload 4, 2) := by decide +kernel
theorem dL_isWhole_216 : decode cL_isWhole 216 = .ok (.if_icmp .ne 46, 3) := by decide +kernel
theorem dL_isWhole_219 : decode cL_isWhole 219 = .ok (.aload_n 0, 1) := by decide +kernel
theorem dL_isWhole_220 : decode cL_isWhole 220 = .ok (.invokevirtual 46, 3) := by decide +kernel
theorem dL_isWhole_223 : decode cL_isWhole 223 = .ok (.iload 4, 2) := by decide +kernel
theorem dL_isWhole_225 : decode cL_isWhole 225 = .ok (.ifCond .ne 7, 3) := by decide +kernel
theorem dL_isWhole_228 : decode cL_isWhole 228 = .ok (.iconst 0, 1) := by decide +kernel
theorem dL_isWhole_229 : decode cL_isWhole 229 = .ok (.goto 5, 3) := by decide +kernel
theorem dL_isWhole_232 : decode cL_isWhole 232 = .ok (.iload 5, 2) := by decide +kernel
theorem dL_isWhole_234 : decode cL_isWhole 234 = .ok (.if_icmp .ne 28, 3) := by decide +kernel
theorem dL_isWhole_237 : decode cL_isWhole 237 = .ok (.aload_n 0, 1) := by decide +kernel
theorem dL_isWhole_238 : decode cL_isWhole 238 = .ok (.invokevirtual 49, 3) := by decide +kernel
theorem dL_isWhole_241 : decode cL_isWhole 241 = .ok (.iload 7, 2) := by decide +kernel
theorem dL_isWhole_243 : decode cL_isWhole 243 = .ok (.bipush 10, 2) := by decide +kernel
theorem dL_isWhole_245 : decode cL_isWhole 245 = .ok (.if_icmp .le 8, 3) := by decide +kernel
theorem dL_isWhole_248 : decode cL_isWhole 248 = .ok (.bipush 10, 2) := by decide +kernel
theorem dL_isWhole_250 : decode cL_isWhole 250 = .ok (.goto 5, 3) := by decide +kernel
theorem dL_isWhole_253 : decode cL_isWhole 253 = .ok (.iload 7, 2) := by decide +kernel
theorem dL_isWhole_255 : decode cL_isWhole 255 = .ok (.if_icmp .ne 7, 3) := by decide +kernel
theorem dL_isWhole_258 : decode cL_isWhole 258 = .ok (.iconst 1, 1) := by decide +kernel
theorem dL_isWhole_259 : decode cL_isWhole 259 = .ok (.goto 4, 3) := by decide +kernel
theorem dL_isWhole_262 : decode cL_isWhole 262 = .ok (.iconst 0, 1) := by decide +kernel
theorem dL_isWhole_263 : decode cL_isWhole 263 = .ok (.ireturn, 1) := by decide +kernel
set_option maxRecDepth 20000 in
theorem ggL_law_X0_init : GoodIn wsL_law wsX0_init := goodIn_r _ [9, 10, 11, 12, 3, 13, 14, 15, 16, 17, 18, 19, 20, 21, 22, 23, 24, 25, 26, 27, 28, 29, 248, 249, 250, 251, 252, 253, 254, 255, 256, 257, 258, 259, 260, 261, 262] (by decide +kernel) (by decide +kernel)
set_option maxRecDepth 20000 in
theorem gL_law_X0_init : GoodIn wsL_law (wsX0_init) := ggL_law_X0_init
set_option maxRecDepth 20000 in
theorem ggL_law_L_isWhole : GoodIn wsL_law wsL_isWhole := goodIn_ca (goodIn_ca (goodIn_r _ [33, 34, 35, 36, 37, 38, 2, 39, 27, 40, 41, 42, 43, 44, 45, 46, 47, 48, 49, 50, 51, 52, 53, 54, 55, 56, 57, 58, 59, 60, 61, 62, 63, 26, 23, 64, 65, 66, 67, 21, 68, 69, 70, 71, 72, 73, 74, 75, 76, 77, 78, 79, 19, 80, 81, 82, 83, 84, 85, 86, 87, 88, 18, 89, 90, 91, 92, 17, 93, 94, 95, 96, 97, 98, 99, 100, 32, 101, 102, 103, 104, 105, 106, 107, 108, 109, 110, 111, 112, 13, 25, 15, 113, 114, 115, 116, 24, 117, 118, 119, 120, 14, 121, 122, 123, 124, 29, 125, 126, 127, 128, 129, 130, 131, 132, 133, 134, 135, 136, 137, 138, 139, 140, 141, 142, 143, 144, 145, 146, 147, 148, 149, 150, 151, 152, 153, 154, 155, 156, 157, 158, 159, 248, 249, 250, 251, 252, 253, 254, 255, 256, 257, 258, 259, 260, 261, 262] (by decide +kernel) (by decide +kernel)) (goodIn_sub (fun _ h => List.mem_append_left _ (List.mem_append_right _ h)) (by decide +kernel))) (goodIn_sub (fun _ h => List.mem_append_right _ h) (by decide +kernel))
set_option maxRecDepth 20000 in
theorem gL_law_L_isWhole : GoodIn wsL_law (va_wsS RL 53 yL_isWhole wsL_isWhole) := goodIn_app (goodIn_of _ (by decide +kernel)) ggL_law_L_isWhole
set_option maxRecDepth 20000 in
theorem ggL_law_X0_need : GoodIn wsL_law wsX0_need := goodIn_r _ [136, 51, 52, 53, 2, 54, 55, 56, 57, 58, 27, 59, 60, 61, 62, 63, 26, 23, 64, 65, 66, 67, 21, 68, 69, 70, 71, 72, 73, 74, 75, 76, 77, 78, 79, 19, 80, 81, 82, 83, 84, 85, 86, 87, 88, 18, 89, 90, 91, 92, 17, 93, 94, 95, 117, 118, 119, 120, 14, 96, 97, 98, 248, 249, 250, 251, 252, 253, 254, 255, 256, 257, 258, 259, 260, 261, 262] (by decide +kernel) (by decide +kernel)
set_option maxRecDepth 20000 in
theorem gL_law_X0_need : GoodIn wsL_law (wsV RL 39 RX0 yX0_need wsX0_need) := goodIn_app (goodIn_of _ (by decide +kernel)) ggL_law_X0_need
set_option maxRecDepth 20000 in
theorem ggL_law_X0_pipes : GoodIn wsL_law wsX0_pipes := goodIn_r _ [140, 51, 52, 53, 2, 54, 55, 56, 57, 58, 27, 59, 60, 61, 62, 63, 26, 23, 64, 65, 66, 67, 21, 68, 69, 70, 71, 72, 73, 74, 75, 76, 77, 78, 79, 19, 80, 81, 82, 83, 84, 85, 86, 87, 88, 18, 89, 90, 91, 92, 17, 93, 94, 95, 141, 142, 143, 144, 145, 146, 147, 148, 149, 150, 151, 248, 249, 250, 251, 252, 253, 254, 255, 256, 257, 258, 259, 260, 261, 262] (by decide +kernel) (by decide +kernel)
set_option maxRecDepth 20000 in
theorem gL_law_X0_pipes : GoodIn wsL_law (wsV RL 43 RX0 yX0_pipes wsX0_pipes) := goodIn_app (goodIn_of _ (by decide +kernel)) ggL_law_X0_pipes
set_option maxRecDepth 20000 in
theorem ggL_law_X0_setRank : GoodIn wsL_law wsX0_setRank := goodIn_ca (goodIn_r _ [163, 13, 28, 14, 15, 40, 41, 2, 42, 43, 44, 45, 46, 47, 248, 249, 250, 251, 252, 253, 254, 255, 256, 257, 258, 259, 260, 261, 262] (by decide +kernel) (by decide +kernel)) (goodIn_sub (fun _ h => List.mem_append_left _ (List.mem_append_right _ h)) (by decide +kernel))
set_option maxRecDepth 20000 in
theorem gL_law_X0_setRank : GoodIn wsL_law (wsV RL 60 RX0 yX0_setRank wsX0_setRank) := goodIn_app (goodIn_of _ (by decide +kernel)) ggL_law_X0_setRank
set_option maxRecDepth 20000 in
theorem ggL_law_L_stops : GoodIn wsL_law wsL_stops := goodIn_ca (goodIn_ca (goodIn_r _ [166, 102, 167, 168, 169, 2, 170, 107, 108, 18, 19, 171, 172, 173, 43, 44, 45, 46, 47, 174, 175, 176, 40, 41, 42, 80, 81, 82, 83, 84, 248, 249, 250, 251, 252, 253, 254, 255, 256, 257, 258, 259, 260, 261, 262] (by decide +kernel) (by decide +kernel)) (goodIn_sub (fun _ h => List.mem_append_right _ h) (by decide +kernel))) (goodIn_sub (fun _ h => List.mem_append_left _ (List.mem_append_right _ h)) (by decide +kernel))
set_option maxRecDepth 20000 in
theorem gL_law_L_stops : GoodIn wsL_law (va_wsS RL 64 yL_stops wsL_stops) := goodIn_app (goodIn_of _ (by decide +kernel)) ggL_law_L_stops
set_option maxRecDepth 20000 in
theorem ggL_law_L_couples : GoodIn wsL_law wsL_couples := goodIn_ca (goodIn_ca (goodIn_r _ [179, 180, 102, 181, 182, 183, 2, 184, 46, 47, 107, 108, 21, 174, 175, 176, 43, 44, 45, 185, 186, 187, 188, 68, 69, 70, 71, 189, 190, 191, 192, 248, 249, 250, 251, 252, 253, 254, 255, 256, 257, 258, 259, 260, 261, 262] (by decide +kernel) (by decide +kernel)) (goodIn_sub (fun _ h => List.mem_append_left _ (List.mem_append_right _ h)) (by decide +kernel))) (goodIn_sub (fun _ h => List.mem_append_right _ h) (by decide +kernel))
set_option maxRecDepth 20000 in
theorem gL_law_L_couples : GoodIn wsL_law (va_wsS RL 68 yL_couples wsL_couples) := goodIn_app (goodIn_of _ (by decide +kernel)) ggL_law_L_couples
set_option maxRecDepth 20000 in
theorem ggL_law_X0_uncouple : GoodIn wsL_law wsX0_uncouple := goodIn_ca (goodIn_r _ [196, 21, 174, 175, 2, 176, 43, 44, 45, 46, 47, 68, 69, 70, 71, 248, 249, 250, 251, 252, 253, 254, 255, 256, 257, 258, 259, 260, 261, 262] (by decide +kernel) (by decide +kernel)) (goodIn_sub (fun _ h => List.mem_append_left _ (List.mem_append_right _ h)) (by decide +kernel))
set_option maxRecDepth 20000 in
theorem gL_law_X0_uncouple : GoodIn wsL_law (wsV RL 71 RX0 yX0_uncouple wsX0_uncouple) := goodIn_app (goodIn_of _ (by decide +kernel)) ggL_law_X0_uncouple
set_option maxRecDepth 20000 in
theorem ggL_law_X0_draw : GoodIn wsL_law wsX0_draw := goodIn_ca (goodIn_r _ [200, 84, 171, 172, 2, 173, 43, 44, 45, 46, 47, 80, 81, 82, 83, 248, 249, 250, 251, 252, 253, 254, 255, 256, 257, 258, 259, 260, 261, 262] (by decide +kernel) (by decide +kernel)) (goodIn_sub (fun _ h => List.mem_append_left _ (List.mem_append_right _ h)) (by decide +kernel))
set_option maxRecDepth 20000 in
theorem gL_law_X0_draw : GoodIn wsL_law (wsV RL 74 RX0 yX0_draw wsX0_draw) := goodIn_app (goodIn_of _ (by decide +kernel)) ggL_law_X0_draw
set_option maxRecDepth 20000 in
theorem ggL_law_X0_more : GoodIn wsL_law wsX0_more := goodIn_ca (goodIn_r _ [204, 174, 175, 2, 176, 43, 44, 45, 46, 47, 48, 49, 50, 51, 52, 53, 54, 55, 56, 57, 58, 27, 59, 60, 61, 62, 63, 26, 23, 64, 65, 66, 67, 21, 68, 69, 70, 71, 72, 73, 74, 75, 76, 77, 78, 79, 19, 80, 81, 82, 83, 84, 85, 86, 87, 88, 18, 89, 90, 91, 92, 17, 93, 94, 95, 117, 118, 119, 120, 14, 96, 97, 98, 248, 249, 250, 251, 252, 253, 254, 255, 256, 257, 258, 259, 260, 261, 262] (by decide +kernel) (by decide +kernel)) (goodIn_sub (fun _ h => List.mem_append_left _ (List.mem_append_right _ h)) (by decide +kernel))
set_option maxRecDepth 20000 in
theorem gL_law_X0_more : GoodIn wsL_law (wsV RL 78 RX0 yX0_more wsX0_more) := goodIn_app (goodIn_of _ (by decide +kernel)) ggL_law_X0_more
set_option maxRecDepth 20000 in
theorem ggL_law_X0_hold : GoodIn wsL_law wsX0_hold := goodIn_ca (goodIn_r _ [208, 23, 174, 175, 2, 176, 43, 44, 45, 46, 47, 48, 49, 50, 96, 97, 98, 93, 94, 95, 248, 249, 250, 251, 252, 253, 254, 255, 256, 257, 258, 259, 260, 261, 262] (by decide +kernel) (by decide +kernel)) (goodIn_sub (fun _ h => List.mem_append_left _ (List.mem_append_right _ h)) (by decide +kernel))
set_option maxRecDepth 20000 in
theorem gL_law_X0_hold : GoodIn wsL_law (wsV RL 81 RX0 yX0_hold wsX0_hold) := goodIn_app (goodIn_of _ (by decide +kernel)) ggL_law_X0_hold
set_option maxRecDepth 20000 in
theorem ggL_law_X0_keep : GoodIn wsL_law wsX0_keep := goodIn_ca (goodIn_r _ [212, 20, 84, 43, 44, 2, 45, 46, 47, 213, 214, 215, 216, 217, 218, 219, 248, 249, 250, 251, 252, 253, 254, 255, 256, 257, 258, 259, 260, 261, 262] (by decide +kernel) (by decide +kernel)) (goodIn_sub (fun _ h => List.mem_append_left _ (List.mem_append_right _ h)) (by decide +kernel))
set_option maxRecDepth 20000 in
theorem gL_law_X0_keep : GoodIn wsL_law (wsV RL 85 RX0 yX0_keep wsX0_keep) := goodIn_app (goodIn_of _ (by decide +kernel)) ggL_law_X0_keep
set_option maxRecDepth 20000 in
theorem ggL_law_X0_recall : GoodIn wsL_law wsX0_recall := goodIn_ca (goodIn_r _ [223, 84, 20, 43, 44, 2, 45, 46, 47, 213, 214, 215, 216, 217, 218, 219, 248, 249, 250, 251, 252, 253, 254, 255, 256, 257, 258, 259, 260, 261, 262] (by decide +kernel) (by decide +kernel)) (goodIn_sub (fun _ h => List.mem_append_left _ (List.mem_append_right _ h)) (by decide +kernel))
set_option maxRecDepth 20000 in
theorem gL_law_X0_recall : GoodIn wsL_law (wsV RL 89 RX0 yX0_recall wsX0_recall) := goodIn_app (goodIn_of _ (by decide +kernel)) ggL_law_X0_recall
set_option maxRecDepth 20000 in
theorem ggL_law_X0_sounds : GoodIn wsL_law wsX0_sounds := goodIn_ca (goodIn_r _ [39, 27, 40, 41, 2, 42, 43, 44, 45, 46, 47, 48, 49, 50, 51, 52, 53, 54, 55, 56, 57, 58, 59, 60, 61, 62, 63, 26, 23, 64, 65, 66, 67, 21, 68, 69, 70, 71, 72, 73, 74, 75, 76, 77, 78, 79, 19, 80, 81, 82, 83, 84, 85, 86, 87, 88, 18, 89, 90, 91, 92, 17, 93, 94, 95, 96, 97, 98, 248, 249, 250, 251, 252, 253, 254, 255, 256, 257, 258, 259, 260, 261, 262] (by decide +kernel) (by decide +kernel)) (goodIn_sub (fun _ h => List.mem_append_left _ (List.mem_append_right _ h)) (by decide +kernel))
set_option maxRecDepth 20000 in
theorem gL_law_X0_sounds : GoodIn wsL_law (wsV RL 27 RX0 yX0_sounds wsX0_sounds) := goodIn_app (goodIn_of _ (by decide +kernel)) ggL_law_X0_sounds
set_option maxRecDepth 20000 in
theorem ggL_law_X0_wear : GoodIn wsL_law wsX0_wear := goodIn_ca (goodIn_r _ [132, 17, 40, 41, 2, 42, 43, 44, 45, 46, 47, 48, 49, 50, 248, 249, 250, 251, 252, 253, 254, 255, 256, 257, 258, 259, 260, 261, 262] (by decide +kernel) (by decide +kernel)) (goodIn_sub (fun _ h => List.mem_append_left _ (List.mem_append_right _ h)) (by decide +kernel))
set_option maxRecDepth 20000 in
theorem gL_law_X0_wear : GoodIn wsL_law (wsV RL 36 RX0 yX0_wear wsX0_wear) := goodIn_app (goodIn_of _ (by decide +kernel)) ggL_law_X0_wear
set_option maxRecDepth 20000 in
theorem ggL_law_X0_sound : GoodIn wsL_law wsX0_sound := goodIn_ca (goodIn_r _ [227, 43, 44, 2, 45, 46, 47, 51, 52, 53, 54, 55, 56, 57, 58, 27, 59, 60, 61, 62, 63, 26, 23, 64, 65, 66, 67, 21, 68, 69, 70, 71, 72, 73, 74, 75, 76, 77, 78, 79, 19, 80, 81, 82, 83, 84, 85, 86, 87, 88, 18, 89, 90, 91, 92, 17, 93, 94, 95, 228, 229, 230, 231, 96, 97, 98, 141, 142, 143, 144, 145, 146, 147, 148, 149, 150, 151, 248, 249, 250, 251, 252, 253, 254, 255, 256, 257, 258, 259, 260, 261, 262] (by decide +kernel) (by decide +kernel)) (goodIn_sub (fun _ h => List.mem_append_left _ (List.mem_append_right _ h)) (by decide +kernel))
set_option maxRecDepth 20000 in
theorem gL_law_X0_sound : GoodIn wsL_law (wsV RL 92 RX0 yX0_sound wsX0_sound) := goodIn_app (goodIn_of _ (by decide +kernel)) ggL_law_X0_sound
set_option maxRecDepth 20000 in
theorem ggL_law_X0_repair : GoodIn wsL_law wsX0_repair := goodIn_ca (goodIn_r _ [235, 17, 40, 41, 2, 42, 43, 44, 45, 46, 47, 89, 90, 91, 92, 93, 94, 95, 145, 146, 147, 148, 149, 150, 151, 248, 249, 250, 251, 252, 253, 254, 255, 256, 257, 258, 259, 260, 261, 262] (by decide +kernel) (by decide +kernel)) (goodIn_sub (fun _ h => List.mem_append_left _ (List.mem_append_right _ h)) (by decide +kernel))
set_option maxRecDepth 20000 in
theorem gL_law_X0_repair : GoodIn wsL_law (wsV RL 95 RX0 yX0_repair wsX0_repair) := goodIn_app (goodIn_of _ (by decide +kernel)) ggL_law_X0_repair
set_option maxRecDepth 20000 in
theorem ggL_law_X0_setSupply : GoodIn wsL_law wsX0_setSupply := goodIn_ca (goodIn_r _ [239, 29, 43, 44, 2, 45, 46, 47, 248, 249, 250, 251, 252, 253, 254, 255, 256, 257, 258, 259, 260, 261, 262] (by decide +kernel) (by decide +kernel)) (goodIn_sub (fun _ h => List.mem_append_left _ (List.mem_append_right _ h)) (by decide +kernel))
set_option maxRecDepth 20000 in
theorem gL_law_X0_setSupply : GoodIn wsL_law (wsV RL 98 RX0 yX0_setSupply wsX0_setSupply) := goodIn_app (goodIn_of _ (by decide +kernel)) ggL_law_X0_setSupply
set_option maxRecDepth 20000 in
theorem ggL_law_X0_lowest : GoodIn wsL_law wsX0_lowest := goodIn_r _ [155, 27, 125, 126, 127, 128, 51, 52, 53, 2, 54, 55, 56, 57, 58, 59, 60, 61, 62, 63, 26, 23, 64, 65, 66, 67, 21, 68, 69, 70, 71, 72, 73, 74, 75, 76, 77, 78, 79, 19, 80, 81, 82, 83, 84, 85, 86, 87, 88, 18, 89, 90, 91, 92, 17, 93, 94, 95, 96, 97, 98, 109, 110, 111, 112, 13, 25, 15, 113, 114, 115, 116, 24, 117, 118, 119, 120, 14, 121, 122, 123, 124, 29, 248, 249, 250, 251, 252, 253, 254, 255, 256, 257, 258, 259, 260, 261, 262] (by decide +kernel) (by decide +kernel)
set_option maxRecDepth 20000 in
theorem gL_law_X0_lowest : GoodIn wsL_law (wsV RL 46 RX0 yX0_lowest wsX0_lowest) := goodIn_app (goodIn_of _ (by decide +kernel)) ggL_law_X0_lowest
set_option maxRecDepth 20000 in
theorem ggL_law_X0_tune : GoodIn wsL_law wsX0_tune := goodIn_ca (goodIn_r _ [243, 25, 43, 44, 2, 45, 46, 47, 248, 249, 250, 251, 252, 253, 254, 255, 256, 257, 258, 259, 260, 261, 262] (by decide +kernel) (by decide +kernel)) (goodIn_sub (fun _ h => List.mem_append_left _ (List.mem_append_right _ h)) (by decide +kernel))
set_option maxRecDepth 20000 in
theorem gL_law_X0_tune : GoodIn wsL_law (wsV RL 101 RX0 yX0_tune wsX0_tune) := goodIn_app (goodIn_of _ (by decide +kernel)) ggL_law_X0_tune
set_option maxRecDepth 20000 in
theorem ggL_law_X0_letGo : GoodIn wsL_law wsX0_letGo := goodIn_r _ [247, 23, 145, 146, 147, 148, 149, 150, 151, 248, 249, 250, 251, 252, 253, 254, 255, 256, 257, 258, 259, 260, 261, 262] (by decide +kernel) (by decide +kernel)
set_option maxRecDepth 20000 in
theorem gL_law_X0_letGo : GoodIn wsL_law (wsV RL 104 RX0 yX0_letGo wsX0_letGo) := goodIn_app (goodIn_of _ (by decide +kernel)) ggL_law_X0_letGo
set_option maxRecDepth 20000 in
theorem ggL_law_X0_sagStep : GoodIn wsL_law wsX0_sagStep := goodIn_r _ [159, 51, 52, 53, 2, 54, 55, 56, 57, 58, 27, 59, 60, 61, 62, 63, 26, 23, 64, 65, 66, 67, 21, 68, 69, 70, 71, 72, 73, 74, 75, 76, 77, 78, 79, 19, 80, 81, 82, 83, 84, 85, 86, 87, 88, 18, 89, 90, 91, 92, 17, 93, 94, 95, 117, 118, 119, 120, 14, 96, 97, 98, 121, 122, 123, 124, 29, 125, 126, 127, 128, 248, 249, 250, 251, 252, 253, 254, 255, 256, 257, 258, 259, 260, 261, 262] (by decide +kernel) (by decide +kernel)
set_option maxRecDepth 20000 in
theorem gL_law_X0_sagStep : GoodIn wsL_law (wsV RL 49 RX0 yX0_sagStep wsX0_sagStep) := goodIn_app (goodIn_of _ (by decide +kernel)) ggL_law_X0_sagStep
