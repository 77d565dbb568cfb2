theorem dL_setRank_0 : decode cL_setRank 0 = .ok (.aload_n 0, 1) := by decide +kernel
theorem dL_setRank_1 : decode cL_setRank 1 = .ok (.iload_n 1, 1) := by decide +kernel
theorem dL_setRank_2 : decode cL_setRank 2 = .ok (.iload_n 2, 1) := by decide +kernel
theorem dL_setRank_3 : decode cL_setRank 3 = .ok (.iload_n 3, 1) := by decide +kernel
theorem dL_setRank_4 : decode cL_setRank 4 = .ok (.iload 4, 2) := by decide +kernel
theorem dL_setRank_6 : decode cL_setRank 6 = .ok (.invokevirtual 7, 3) := by decide +kernel
theorem dL_setRank_9 : decode cL_setRank 9 = .ok (.goto 7, 3) := by decide +kernel
theorem dL_setRank_12 : decode cL_setRank 12 = .ok (.astore 5, 2) := by decide +kernel
theorem dL_setRank_14 : decode cL_setRank 14 = .ok (.iconst 1, 1) := by decide +kernel
theorem dL_setRank_15 : decode cL_setRank 15 = .ok (.ireturn, 1) := by decide +kernel
theorem dL_setRank_16 : decode cL_setRank 16 = .ok (.iconst 0, 1) := by decide +kernel
theorem dL_setRank_17 : decode cL_setRank 17 = .ok (.ireturn, 1) := by decide +kernel
set_option maxRecDepth 20000 in
theorem ggL_setStop_X0_setStop : GoodIn wsL_setStop wsX0_setStop := goodIn_ca (goodIn_ca (goodIn_r _ [7, 8, 9, 10, 11, 12, 13, 6, 14, 15, 16, 17, 18, 19, 20, 21, 22, 23, 24, 25, 26, 27, 28, 29, 30, 31, 32, 33, 34, 35, 36, 37, 38, 39, 40, 41, 42, 43, 44, 45] (by decide +kernel) (by decide +kernel)) (goodIn_sub (fun _ h => List.mem_cons_of_mem _ (List.mem_append_left _ (List.mem_append_right _ h))) (by decide +kernel))) (goodIn_sub (fun _ h => List.mem_cons_of_mem _ (List.mem_append_right _ h)) (by decide +kernel))
set_option maxRecDepth 20000 in
theorem gL_setStop_X0_setStop : GoodIn wsL_setStop (wsV RL 15 RX0 yX0_setStop wsX0_setStop) := goodIn_app (goodIn_of _ (by decide +kernel)) ggL_setStop_X0_setStop
theorem dL_setStop_0 : decode cL_setStop 0 = .ok (.aload_n 0, 1) := by decide +kernel
theorem dL_setStop_1 : decode cL_setStop 1 = .ok (.iload_n 1, 1) := by decide +kernel
theorem dL_setStop_2 : decode cL_setStop 2 = .ok (.iload_n 2, 1) := by decide +kernel
theorem dL_setStop_3 : decode cL_setStop 3 = .ok (.iload_n 3, 1) := by decide +kernel
theorem dL_setStop_4 : decode cL_setStop 4 = .ok (.invokevirtual 15, 3) := by decide +kernel
theorem dL_setStop_7 : decode cL_setStop 7 = .ok (.goto 11, 3) := by decide +kernel
theorem dL_setStop_10 : decode cL_setStop 10 = .ok (.astore 4, 2) := by decide +kernel
theorem dL_setStop_12 : decode cL_setStop 12 = .ok (.iconst 1, 1) := by decide +kernel
theorem dL_setStop_13 : decode cL_setStop 13 = .ok (.ireturn, 1) := by decide +kernel
theorem dL_setStop_14 : decode cL_setStop 14 = .ok (.astore 4, 2) := by decide +kernel
theorem dL_setStop_16 : decode cL_setStop 16 = .ok (.iconst 2, 1) := by decide +kernel
theorem dL_setStop_17 : decode cL_setStop 17 = .ok (.ireturn, 1) := by decide +kernel
theorem dL_setStop_18 : decode cL_setStop 18 = .ok (.iconst 0, 1) := by decide +kernel
theorem dL_setStop_19 : decode cL_setStop 19 = .ok (.ireturn, 1) := by decide +kernel
set_option maxRecDepth 20000 in
theorem ggL_couple_X0_couple : GoodIn wsL_couple wsX0_couple := goodIn_ca (goodIn_ca (goodIn_r _ [7, 8, 9, 10, 11, 12, 13, 14, 6, 15, 16, 17, 18, 19, 20, 21, 22, 23, 24, 25, 26, 27, 28, 29, 30, 31, 32, 33, 34, 35, 36, 37, 38, 39, 40, 41, 42, 43, 44, 45] (by decide +kernel) (by decide +kernel)) (goodIn_sub (fun _ h => List.mem_cons_of_mem _ (List.mem_append_left _ (List.mem_append_right _ h))) (by decide +kernel))) (goodIn_sub (fun _ h => List.mem_cons_of_mem _ (List.mem_append_right _ h)) (by decide +kernel))
set_option maxRecDepth 20000 in
theorem gL_couple_X0_couple : GoodIn wsL_couple (wsV RL 21 RX0 yX0_couple wsX0_couple) := goodIn_app (goodIn_of _ (by decide +kernel)) ggL_couple_X0_couple
theorem dL_couple_0 : decode cL_couple 0 = .ok (.aload 4, 2) := by decide +kernel
theorem dL_couple_2 : decode cL_couple 2 = .ok (.iconst 0, 1) := by decide +kernel
theorem dL_couple_3 : decode cL_couple 3 = .ok (.aload_n 0, 1) := by decide +kernel
theorem dL_couple_4 : decode cL_couple 4 = .ok (.iload_n 1, 1) := by decide +kernel
theorem dL_couple_5 : decode cL_couple 5 = .ok (.iload_n 2, 1) := by decide +kernel
theorem dL_couple_6 : decode cL_couple 6 = .ok (.iload_n 3, 1) := by decide +kernel
theorem dL_couple_7 : decode cL_couple 7 = .ok (.invokevirtual 21, 3) := by decide +kernel
theorem dL_couple_10 : decode cL_couple 10 = .ok (.i2l, 1) := by decide +kernel
theorem dL_couple_11 : decode cL_couple 11 = .ok (.lastore, 1) := by decide +kernel
theorem dL_couple_12 : decode cL_couple 12 = .ok (.goto 11, 3) := by decide +kernel
theorem dL_couple_15 : decode cL_couple 15 = .ok (.astore 5, 2) := by decide +kernel
theorem dL_couple_17 : decode cL_couple 17 = .ok (.iconst 1, 1) := by decide +kernel
theorem dL_couple_18 : decode cL_couple 18 = .ok (.ireturn, 1) := by decide +kernel
theorem dL_couple_19 : decode cL_couple 19 = .ok (.astore 5, 2) := by decide +kernel
theorem dL_couple_21 : decode cL_couple 21 = .ok (.iconst 2, 1) := by decide +kernel
theorem dL_couple_22 : decode cL_couple 22 = .ok (.ireturn, 1) := by decide +kernel
theorem dL_couple_23 : decode cL_couple 23 = .ok (.iconst 0, 1) := by decide +kernel
theorem dL_couple_24 : decode cL_couple 24 = .ok (.ireturn, 1) := by decide +kernel
set_option maxRecDepth 20000 in
theorem ggL_uncouple_X0_uncouple : GoodIn wsL_uncouple wsX0_uncouple := goodIn_ca (goodIn_r _ [6, 7, 8, 9, 5, 10, 11, 12, 13, 14, 15, 16, 17, 18, 19, 20, 21, 22, 23, 24, 25, 26, 27, 28, 29, 30, 31, 32, 33, 34] (by decide +kernel) (by decide +kernel)) (goodIn_sub (fun _ h => List.mem_cons_of_mem _ (List.mem_append_right _ h)) (by decide +kernel))
set_option maxRecDepth 20000 in
theorem gL_uncouple_X0_uncouple : GoodIn wsL_uncouple (wsV RL 25 RX0 yX0_uncouple wsX0_uncouple) := goodIn_app (goodIn_of _ (by decide +kernel)) ggL_uncouple_X0_uncouple
theorem dL_uncouple_0 : decode cL_uncouple 0 = .ok (.aload_n 3, 1) := by decide +kernel
theorem dL_uncouple_1 : decode cL_uncouple 1 = .ok (.iconst 0, 1) := by decide +kernel
theorem dL_uncouple_2 : decode cL_uncouple 2 = .ok (.aload_n 0, 1) := by decide +kernel
theorem dL_uncouple_3 : decode cL_uncouple 3 = .ok (.iload_n 1, 1) := by decide +kernel
theorem dL_uncouple_4 : decode cL_uncouple 4 = .ok (.iload_n 2, 1) := by decide +kernel
theorem dL_uncouple_5 : decode cL_uncouple 5 = .ok (.invokevirtual 25, 3) := by decide +kernel
theorem dL_uncouple_8 : decode cL_uncouple 8 = .ok (.ifCond .eq 7, 3) := by decide +kernel
theorem dL_uncouple_11 : decode cL_uncouple 11 = .ok (.lconst 1, 1) := by decide +kernel
theorem dL_uncouple_12 : decode cL_uncouple 12 = .ok (.goto 4, 3) := by decide +kernel
theorem dL_uncouple_15 : decode cL_uncouple 15 = .ok (.lconst 0, 1) := by decide +kernel
theorem dL_uncouple_16 : decode cL_uncouple 16 = .ok (.lastore, 1) := by decide +kernel
theorem dL_uncouple_17 : decode cL_uncouple 17 = .ok (.goto 7, 3) := by decide +kernel
theorem dL_uncouple_20 : decode cL_uncouple 20 = .ok (.astore 4, 2) := by decide +kernel
theorem dL_uncouple_22 : decode cL_uncouple 22 = .ok (.iconst 1, 1) := by decide +kernel
theorem dL_uncouple_23 : decode cL_uncouple 23 = .ok (.ireturn, 1) := by decide +kernel
theorem dL_uncouple_24 : decode cL_uncouple 24 = .ok (.iconst 0, 1) := by decide +kernel
theorem dL_uncouple_25 : decode cL_uncouple 25 = .ok (.ireturn, 1) := by decide +kernel
set_option maxRecDepth 20000 in
theorem ggL_setSupply_X0_setSupply : GoodIn wsL_setSupply wsX0_setSupply := goodIn_ca (goodIn_r _ [6, 7, 8, 9, 5, 10, 11, 12, 13, 14, 15, 16, 17, 18, 19, 20, 21, 22, 23, 24, 25, 26, 27] (by decide +kernel) (by decide +kernel)) (goodIn_sub (fun _ h => List.mem_cons_of_mem _ (List.mem_append_right _ h)) (by decide +kernel))
set_option maxRecDepth 20000 in
theorem gL_setSupply_X0_setSupply : GoodIn wsL_setSupply (wsV RL 29 RX0 yX0_setSupply wsX0_setSupply) := goodIn_app (goodIn_of _ (by decide +kernel)) ggL_setSupply_X0_setSupply
theorem dL_setSupply_0 : decode cL_setSupply 0 = .ok (.aload_n 2, 1) := by decide +kernel
theorem dL_setSupply_1 : decode cL_setSupply 1 = .ok (.iconst 0, 1) := by decide +kernel
theorem dL_setSupply_2 : decode cL_setSupply 2 = .ok (.aload_n 0, 1) := by decide +kernel
theorem dL_setSupply_3 : decode cL_setSupply 3 = .ok (.iload_n 1, 1) := by decide +kernel
theorem dL_setSupply_4 : decode cL_setSupply 4 = .ok (.invokevirtual 29, 3) := by decide +kernel
theorem dL_setSupply_7 : decode cL_setSupply 7 = .ok (.i2l, 1) := by decide +kernel
theorem dL_setSupply_8 : decode cL_setSupply 8 = .ok (.lastore, 1) := by decide +kernel
theorem dL_setSupply_9 : decode cL_setSupply 9 = .ok (.goto 6, 3) := by decide +kernel
theorem dL_setSupply_12 : decode cL_setSupply 12 = .ok (.astore_n 3, 1) := by decide +kernel
theorem dL_setSupply_13 : decode cL_setSupply 13 = .ok (.iconst 1, 1) := by decide +kernel
theorem dL_setSupply_14 : decode cL_setSupply 14 = .ok (.ireturn, 1) := by decide +kernel
theorem dL_setSupply_15 : decode cL_setSupply 15 = .ok (.iconst 0, 1) := by decide +kernel
theorem dL_setSupply_16 : decode cL_setSupply 16 = .ok (.ireturn, 1) := by decide +kernel
set_option maxRecDepth 20000 in
theorem ggL_setSag_X0_setSag : GoodIn wsL_setSag wsX0_setSag := goodIn_ca (goodIn_r _ [6, 7, 8, 9, 5, 10, 11, 12, 13, 14, 15, 16, 17, 18, 19, 20, 21, 22, 23, 24, 25, 26, 27] (by decide +kernel) (by decide +kernel)) (goodIn_sub (fun _ h => List.mem_cons_of_mem _ (List.mem_append_right _ h)) (by decide +kernel))
set_option maxRecDepth 20000 in
theorem gL_setSag_X0_setSag : GoodIn wsL_setSag (wsV RL 33 RX0 yX0_setSag wsX0_setSag) := goodIn_app (goodIn_of _ (by decide +kernel)) ggL_setSag_X0_setSag
theorem dL_setSag_0 : decode cL_setSag 0 = .ok (.aload_n 3, 1) := by decide +kernel
theorem dL_setSag_1 : decode cL_setSag 1 = .ok (.iconst 0, 1) := by decide +kernel
theorem dL_setSag_2 : decode cL_setSag 2 = .ok (.aload_n 0, 1) := by decide +kernel
theorem dL_setSag_3 : decode cL_setSag 3 = .ok (.iload_n 1, 1) := by decide +kernel
theorem dL_setSag_4 : decode cL_setSag 4 = .ok (.iload_n 2, 1) := by decide +kernel
theorem dL_setSag_5 : decode cL_setSag 5 = .ok (.invokevirtual 33, 3) := by decide +kernel
theorem dL_setSag_8 : decode cL_setSag 8 = .ok (.i2l, 1) := by decide +kernel
theorem dL_setSag_9 : decode cL_setSag 9 = .ok (.lastore, 1) := by decide +kernel
theorem dL_setSag_10 : decode cL_setSag 10 = .ok (.goto 7, 3) := by decide +kernel
theorem dL_setSag_13 : decode cL_setSag 13 = .ok (.astore 4, 2) := by decide +kernel
theorem dL_setSag_15 : decode cL_setSag 15 = .ok (.iconst 1, 1) := by decide +kernel
theorem dL_setSag_16 : decode cL_setSag 16 = .ok (.ireturn, 1) := by decide +kernel
theorem dL_setSag_17 : decode cL_setSag 17 = .ok (.iconst 0, 1) := by decide +kernel
theorem dL_setSag_18 : decode cL_setSag 18 = .ok (.ireturn, 1) := by decide +kernel
set_option maxRecDepth 20000 in
theorem ggL_tune_X0_tune : GoodIn wsL_tune wsX0_tune := goodIn_ca (goodIn_r _ [6, 7, 8, 9, 5, 10, 11, 12, 13, 14, 15, 16, 17, 18, 19, 20, 21, 22, 23, 24, 25, 26, 27] (by decide +kernel) (by decide +kernel)) (goodIn_sub (fun _ h => List.mem_cons_of_mem _ (List.mem_append_right _ h)) (by decide +kernel))
set_option maxRecDepth 20000 in
theorem gL_tune_X0_tune : GoodIn wsL_tune (wsV RL 37 RX0 yX0_tune wsX0_tune) := goodIn_app (goodIn_of _ (by decide +kernel)) ggL_tune_X0_tune
theorem dL_tune_0 : decode cL_tune 0 = .ok (.aload_n 3, 1) := by decide +kernel
theorem dL_tune_1 : decode cL_tune 1 = .ok (.iconst 0, 1) := by decide +kernel
theorem dL_tune_2 : decode cL_tune 2 = .ok (.aload_n 0, 1) := by decide +kernel
theorem dL_tune_3 : decode cL_tune 3 = .ok (.iload_n 1, 1) := by decide +kernel
theorem dL_tune_4 : decode cL_tune 4 = .ok (.iload_n 2, 1) := by decide +kernel
theorem dL_tune_5 : decode cL_tune 5 = .ok (.invokevirtual 37, 3) := by decide +kernel
theorem dL_tune_8 : decode cL_tune 8 = .ok (.i2l, 1) := by decide +kernel
theorem dL_tune_9 : decode cL_tune 9 = .ok (.lastore, 1) := by decide +kernel
theorem dL_tune_10 : decode cL_tune 10 = .ok (.goto 7, 3) := by decide +kernel
theorem dL_tune_13 : decode cL_tune 13 = .ok (.astore 4, 2) := by decide +kernel
theorem dL_tune_15 : decode cL_tune 15 = .ok (.iconst 1, 1) := by decide +kernel
theorem dL_tune_16 : decode cL_tune 16 = .ok (.ireturn, 1) := by decide +kernel
theorem dL_tune_17 : decode cL_tune 17 = .ok (.iconst 0, 1) := by decide +kernel
theorem dL_tune_18 : decode cL_tune 18 = .ok (.ireturn, 1) := by decide +kernel
set_option maxRecDepth 20000 in
theorem ggL_draw_X0_draw : GoodIn wsL_draw wsX0_draw := goodIn_ca (goodIn_r _ [6, 7, 8, 9, 5, 10, 11, 12, 13, 14, 15, 16, 17, 18, 19, 20, 21, 22, 23, 24, 25, 26, 27, 28, 29, 30, 31, 32, 33, 34] (by decide +kernel) (by decide +kernel)) (goodIn_sub (fun _ h => List.mem_cons_of_mem _ (List.mem_append_right _ h)) (by decide +kernel))
set_option maxRecDepth 20000 in
theorem gL_draw_X0_draw : GoodIn wsL_draw (wsV RL 40 RX0 yX0_draw wsX0_draw) := goodIn_app (goodIn_of _ (by decide +kernel)) ggL_draw_X0_draw
theorem dL_draw_0 : decode cL_draw 0 = .ok (.aload_n 3, 1) := by decide +kernel
theorem dL_draw_1 : decode cL_draw 1 = .ok (.iconst 0, 1) := by decide +kernel
theorem dL_draw_2 : decode cL_draw 2 = .ok (.aload_n 0, 1) := by decide +kernel
theorem dL_draw_3 : decode cL_draw 3 = .ok (.iload_n 1, 1) := by decide +kernel
theorem dL_draw_4 : decode cL_draw 4 = .ok (.iload_n 2, 1) := by decide +kernel
theorem dL_draw_5 : decode cL_draw 5 = .ok (.invokevirtual 40, 3) := by decide +kernel
theorem dL_draw_8 : decode cL_draw 8 = .ok (.ifCond .eq 7, 3) := by decide +kernel
theorem dL_draw_11 : decode cL_draw 11 = .ok (.lconst 1, 1) := by decide +kernel
theorem dL_draw_12 : decode cL_draw 12 = .ok (.goto 4, 3) := by decide +kernel
theorem dL_draw_15 : decode cL_draw 15 = .ok (.lconst 0, 1) := by decide +kernel
theorem dL_draw_16 : decode cL_draw 16 = .ok (.lastore, 1) := by decide +kernel
theorem dL_draw_17 : decode cL_draw 17 = .ok (.goto 7, 3) := by decide +kernel
theorem dL_draw_20 : decode cL_draw 20 = .ok (.astore 4, 2) := by decide +kernel
theorem dL_draw_22 : decode cL_draw 22 = .ok (.iconst 1, 1) := by decide +kernel
theorem dL_draw_23 : decode cL_draw 23 = .ok (.ireturn, 1) := by decide +kernel
theorem dL_draw_24 : decode cL_draw 24 = .ok (.iconst 0, 1) := by decide +kernel
theorem dL_draw_25 : decode cL_draw 25 = .ok (.ireturn, 1) := by decide +kernel
set_option maxRecDepth 20000 in
theorem ggL_keep_X0_keep : GoodIn wsL_keep wsX0_keep := goodIn_ca (goodIn_r _ [6, 7, 8, 9, 10, 5, 11, 12, 13, 14, 15, 16, 17, 18, 19, 20, 21, 22, 23, 24, 25, 26, 27, 28, 29, 30, 31, 32, 33, 34, 35] (by decide +kernel) (by decide +kernel)) (goodIn_sub (fun _ h => List.mem_cons_of_mem _ (List.mem_append_right _ h)) (by decide +kernel))
set_option maxRecDepth 20000 in
theorem gL_keep_X0_keep : GoodIn wsL_keep (wsV RL 44 RX0 yX0_keep wsX0_keep) := goodIn_app (goodIn_of _ (by decide +kernel)) ggL_keep_X0_keep
theorem dL_keep_0 : decode cL_keep 0 = .ok (.aload_n 2, 1) := by decide +kernel
theorem dL_keep_1 : decode cL_keep 1 = .ok (.iconst 0, 1) := by decide +kernel
theorem dL_keep_2 : decode cL_keep 2 = .ok (.aload_n 0, 1) := by decide +kernel
theorem dL_keep_3 : decode cL_keep 3 = .ok (.iload_n 1, 1) := by decide +kernel
theorem dL_keep_4 : decode cL_keep 4 = .ok (.invokevirtual 44, 3) := by decide +kernel
theorem dL_keep_7 : decode cL_keep 7 = .ok (.i2l, 1) := by decide +kernel
theorem dL_keep_8 : decode cL_keep 8 = .ok (.lastore, 1) := by decide +kernel
theorem dL_keep_9 : decode cL_keep 9 = .ok (.goto 6, 3) := by decide +kernel
theorem dL_keep_12 : decode cL_keep 12 = .ok (.astore_n 3, 1) := by decide +kernel
theorem dL_keep_13 : decode cL_keep 13 = .ok (.iconst 1, 1) := by decide +kernel
theorem dL_keep_14 : decode cL_keep 14 = .ok (.ireturn, 1) := by decide +kernel
theorem dL_keep_15 : decode cL_keep 15 = .ok (.iconst 0, 1) := by decide +kernel
theorem dL_keep_16 : decode cL_keep 16 = .ok (.ireturn, 1) := by decide +kernel
set_option maxRecDepth 20000 in
theorem ggL_recall_X0_recall : GoodIn wsL_recall wsX0_recall := goodIn_ca (goodIn_r _ [6, 7, 8, 9, 10, 5, 11, 12, 13, 14, 15, 16, 17, 18, 19, 20, 21, 22, 23, 24, 25, 26, 27, 28, 29, 30, 31, 32, 33, 34, 35] (by decide +kernel) (by decide +kernel)) (goodIn_sub (fun _ h => List.mem_cons_of_mem _ (List.mem_append_right _ h)) (by decide +kernel))
set_option maxRecDepth 20000 in
theorem gL_recall_X0_recall : GoodIn wsL_recall (wsV RL 47 RX0 yX0_recall wsX0_recall) := goodIn_app (goodIn_of _ (by decide +kernel)) ggL_recall_X0_recall
theorem dL_recall_0 : decode cL_recall 0 = .ok (.aload_n 2, 1) := by decide +kernel
theorem dL_recall_1 : decode cL_recall 1 = .ok (.iconst 0, 1) := by decide +kernel
theorem dL_recall_2 : decode cL_recall 2 = .ok (.aload_n 0, 1) := by decide +kernel
theorem dL_recall_3 : decode cL_recall 3 = .ok (.iload_n 1, 1) := by decide +kernel
theorem dL_recall_4 : decode cL_recall 4 = .ok (.invokevirtual 47, 3) := by decide +kernel
theorem dL_recall_7 : decode cL_recall 7 = .ok (.i2l, 1) := by decide +kernel
theorem dL_recall_8 : decode cL_recall 8 = .ok (.lastore, 1) := by decide +kernel
theorem dL_recall_9 : decode cL_recall 9 = .ok (.goto 6, 3) := by decide +kernel
theorem dL_recall_12 : decode cL_recall 12 = .ok (.astore_n 3, 1) := by decide +kernel
theorem dL_recall_13 : decode cL_recall 13 = .ok (.iconst 1, 1) := by decide +kernel
theorem dL_recall_14 : decode cL_recall 14 = .ok (.ireturn, 1) := by decide +kernel
theorem dL_recall_15 : decode cL_recall 15 = .ok (.iconst 0, 1) := by decide +kernel
theorem dL_recall_16 : decode cL_recall 16 = .ok (.ireturn, 1) := by decide +kernel
set_option maxRecDepth 20000 in
theorem ggL_hold_X0_hold : GoodIn wsL_hold wsX0_hold := goodIn_ca (goodIn_r _ [6, 7, 8, 9, 5, 10, 11, 12, 13, 14, 15, 16, 17, 18, 19, 20, 21, 22, 23, 24, 25, 26, 27, 28, 29, 30, 31, 32, 33, 34, 35, 36, 37, 38, 39] (by decide +kernel) (by decide +kernel)) (goodIn_sub (fun _ h => List.mem_cons_of_mem _ (List.mem_append_right _ h)) (by decide +kernel))
set_option maxRecDepth 20000 in
theorem gL_hold_X0_hold : GoodIn wsL_hold (wsV RL 50 RX0 yX0_hold wsX0_hold) := goodIn_app (goodIn_of _ (by decide +kernel)) ggL_hold_X0_hold
theorem dL_hold_0 : decode cL_hold 0 = .ok (.aload 4, 2) := by decide +kernel
theorem dL_hold_2 : decode cL_hold 2 = .ok (.iconst 0, 1) := by decide +kernel
theorem dL_hold_3 : decode cL_hold 3 = .ok (.aload_n 0, 1) := by decide +kernel
theorem dL_hold_4 : decode cL_hold 4 = .ok (.iload_n 1, 1) := by decide +kernel
theorem dL_hold_5 : decode cL_hold 5 = .ok (.iload_n 2, 1) := by decide +kernel
theorem dL_hold_6 : decode cL_hold 6 = .ok (.iload_n 3, 1) := by decide +kernel
theorem dL_hold_7 : decode cL_hold 7 = .ok (.invokevirtual 50, 3) := by decide +kernel
theorem dL_hold_10 : decode cL_hold 10 = .ok (.ifCond .eq 7, 3) := by decide +kernel
theorem dL_hold_13 : decode cL_hold 13 = .ok (.lconst 1, 1) := by decide +kernel
theorem dL_hold_14 : decode cL_hold 14 = .ok (.goto 4, 3) := by decide +kernel
theorem dL_hold_17 : decode cL_hold 17 = .ok (.lconst 0, 1) := by decide +kernel
theorem dL_hold_18 : decode cL_hold 18 = .ok (.lastore, 1) := by decide +kernel
theorem dL_hold_19 : decode cL_hold 19 = .ok (.goto 7, 3) := by decide +kernel
theorem dL_hold_22 : decode cL_hold 22 = .ok (.astore 5, 2) := by decide +kernel
theorem dL_hold_24 : decode cL_hold 24 = .ok (.iconst 1, 1) := by decide +kernel
theorem dL_hold_25 : decode cL_hold 25 = .ok (.ireturn, 1) := by decide +kernel
theorem dL_hold_26 : decode cL_hold 26 = .ok (.iconst 0, 1) := by decide +kernel
theorem dL_hold_27 : decode cL_hold 27 = .ok (.ireturn, 1) := by decide +kernel
set_option maxRecDepth 20000 in
theorem ggL_sound_X0_sound : GoodIn wsL_sound wsX0_sound := goodIn_ca (goodIn_r _ [6, 7, 8, 5, 9, 10, 11, 12, 13, 14, 15, 16, 17, 18, 19, 20, 21, 22, 23, 24, 25, 26, 27, 28, 29, 30, 31, 32, 33, 34, 35, 36, 37, 38, 39, 40, 41, 42, 43, 44, 45, 46, 47, 48, 49, 50, 51, 52, 53, 54, 55, 56, 57, 58, 59, 60, 61, 62, 63, 64, 65, 66, 67, 68, 69, 70, 71, 72, 73, 74, 75, 76, 77, 78, 79, 80, 81, 82, 83, 84, 85, 86, 87, 88, 89, 90, 91, 92, 93, 94, 95, 96] (by decide +kernel) (by decide +kernel)) (goodIn_sub (fun _ h => List.mem_cons_of_mem _ (List.mem_append_right _ h)) (by decide +kernel))
set_option maxRecDepth 20000 in
theorem gL_sound_X0_sound : GoodIn wsL_sound (wsV RL 54 RX0 yX0_sound wsX0_sound) := goodIn_app (goodIn_of _ (by decide +kernel)) ggL_sound_X0_sound
theorem dL_sound_0 : decode cL_sound 0 = .ok (.aload_n 2, 1) := by decide +kernel
theorem dL_sound_1 : decode cL_sound 1 = .ok (.iconst 0, 1) := by decide +kernel
theorem dL_sound_2 : decode cL_sound 2 = .ok (.aload_n 0, 1) := by decide +kernel
theorem dL_sound_3 : decode cL_sound 3 = .ok (.iload_n 1, 1) := by decide +kernel
theorem dL_sound_4 : decode cL_sound 4 = .ok (.invokevirtual 54, 3) := by decide +kernel
theorem dL_sound_7 : decode cL_sound 7 = .ok (.i2l, 1) := by decide +kernel
theorem dL_sound_8 : decode cL_sound 8 = .ok (.lastore, 1) := by decide +kernel
theorem dL_sound_9 : decode cL_sound 9 = .ok (.goto 6, 3) := by decide +kernel
theorem dL_sound_12 : decode cL_sound 12 = .ok (.astore_n 3, 1) := by decide +kernel
theorem dL_sound_13 : decode cL_sound 13 = .ok (.iconst 1, 1) := by decide +kernel
theorem dL_sound_14 : decode cL_sound 14 = .ok (.ireturn, 1) := by decide +kernel
theorem dL_sound_15 : decode cL_sound 15 = .ok (.iconst 0, 1) := by decide +kernel
theorem dL_sound_16 : decode cL_sound 16 = .ok (.ireturn, 1) := by decide +kernel
set_option maxRecDepth 20000 in
theorem ggL_repair_X0_repair : GoodIn wsL_repair wsX0_repair := goodIn_ca (goodIn_r _ [6, 7, 8, 9, 5, 10, 11, 12, 13, 14, 15, 16, 17, 18, 19, 20, 21, 22, 23, 24, 25, 26, 27, 28, 29, 30, 31, 32, 33, 34, 35, 36, 37, 38, 39, 40, 41, 42, 43, 44] (by decide +kernel) (by decide +kernel)) (goodIn_sub (fun _ h => List.mem_cons_of_mem _ (List.mem_append_right _ h)) (by decide +kernel))
set_option maxRecDepth 20000 in
theorem gL_repair_X0_repair : GoodIn wsL_repair (wsV RL 57 RX0 yX0_repair wsX0_repair) := goodIn_app (goodIn_of _ (by decide +kernel)) ggL_repair_X0_repair
theorem dL_repair_0 : decode cL_repair 0 = .ok (.aload_n 2, 1) := by decide +kernel
theorem dL_repair_1 : decode cL_repair 1 = .ok (.iconst 0, 1) := by decide +kernel
theorem dL_repair_2 : decode cL_repair 2 = .ok (.aload_n 0, 1) := by decide +kernel
theorem dL_repair_3 : decode cL_repair 3 = .ok (.iload_n 1, 1) := by decide +kernel
theorem dL_repair_4 : decode cL_repair 4 = .ok (.invokevirtual 57, 3) := by decide +kernel
theorem dL_repair_7 : decode cL_repair 7 = .ok (.i2l, 1) := by decide +kernel
theorem dL_repair_8 : decode cL_repair 8 = .ok (.lastore, 1) := by decide +kernel
theorem dL_repair_9 : decode cL_repair 9 = .ok (.goto 6, 3) := by decide +kernel
theorem dL_repair_12 : decode cL_repair 12 = .ok (.astore_n 3, 1) := by decide +kernel
theorem dL_repair_13 : decode cL_repair 13 = .ok (.iconst 1, 1) := by decide +kernel
theorem dL_repair_14 : decode cL_repair 14 = .ok (.ireturn, 1) := by decide +kernel
theorem dL_repair_15 : decode cL_repair 15 = .ok (.iconst 0, 1) := by decide +kernel
theorem dL_repair_16 : decode cL_repair 16 = .ok (.ireturn, 1) := by decide +kernel
set_option maxRecDepth 20000 in
theorem ggL_sounds_X0_sounds : GoodIn wsL_sounds wsX0_sounds := goodIn_ca (goodIn_r _ [6, 7, 8, 9, 5, 10, 11, 12, 13, 14, 15, 16, 17, 18, 19, 20, 21, 22, 23, 24, 25, 26, 27, 28, 29, 30, 31, 32, 33, 34, 35, 36, 37, 38, 39, 40, 41, 42, 43, 44, 45, 46, 47, 48, 49, 50, 51, 52, 53, 54, 55, 56, 57, 58, 59, 60, 61, 62, 63, 64, 65, 66, 67, 68, 69, 70, 71, 72, 73, 74, 75, 76, 77, 78, 79, 80, 81, 82, 83, 84, 85, 86, 87] (by decide +kernel) (by decide +kernel)) (goodIn_sub (fun _ h => List.mem_cons_of_mem _ (List.mem_append_right _ h)) (by decide +kernel))
set_option maxRecDepth 20000 in
theorem gL_sounds_X0_sounds : GoodIn wsL_sounds (wsV RL 60 RX0 yX0_sounds wsX0_sounds) := goodIn_app (goodIn_of _ (by decide +kernel)) ggL_sounds_X0_sounds
theorem dL_sounds_0 : decode cL_sounds 0 = .ok (.aload_n 3, 1) := by decide +kernel
theorem dL_sounds_1 : decode cL_sounds 1 = .ok (.iconst 0, 1) := by decide +kernel
theorem dL_sounds_2 : decode cL_sounds 2 = .ok (.aload_n 0, 1) := by decide +kernel
theorem dL_sounds_3 : decode cL_sounds 3 = .ok (.iload_n 1, 1) := by decide +kernel
theorem dL_sounds_4 : decode cL_sounds 4 = .ok (.iload_n 2, 1) := by decide +kernel
theorem dL_sounds_5 : decode cL_sounds 5 = .ok (.invokevirtual 60, 3) := by decide +kernel
theorem dL_sounds_8 : decode cL_sounds 8 = .ok (.ifCond .eq 7, 3) := by decide +kernel
theorem dL_sounds_11 : decode cL_sounds 11 = .ok (.lconst 1, 1) := by decide +kernel
theorem dL_sounds_12 : decode cL_sounds 12 = .ok (.goto 4, 3) := by decide +kernel
theorem dL_sounds_15 : decode cL_sounds 15 = .ok (.lconst 0, 1) := by decide +kernel
theorem dL_sounds_16 : decode cL_sounds 16 = .ok (.lastore, 1) := by decide +kernel
theorem dL_sounds_17 : decode cL_sounds 17 = .ok (.goto 7, 3) := by decide +kernel
theorem dL_sounds_20 : decode cL_sounds 20 = .ok (.astore 4, 2) := by decide +kernel
theorem dL_sounds_22 : decode cL_sounds 22 = .ok (.iconst 1, 1) := by decide +kernel
theorem dL_sounds_23 : decode cL_sounds 23 = .ok (.ireturn, 1) := by decide +kernel
theorem dL_sounds_24 : decode cL_sounds 24 = .ok (.iconst 0, 1) := by decide +kernel
theorem dL_sounds_25 : decode cL_sounds 25 = .ok (.ireturn, 1) := by decide +kernel
set_option maxRecDepth 20000 in
theorem ggL_pitch_X0_pitch : GoodIn wsL_pitch wsX0_pitch := goodIn_ca (goodIn_ca (goodIn_r _ [7, 8, 9, 10, 11, 12, 6, 13, 14, 15, 16, 17, 18, 19, 20, 21, 22, 23, 24, 25, 26, 27, 28, 29, 30, 31, 32, 33, 34, 35, 36, 37, 38, 39, 40, 41, 42, 43, 44, 45, 46, 47, 48, 49, 50, 51, 52, 53, 54, 55, 56, 57, 58, 59, 60, 61, 62, 63, 64, 65, 66, 67, 68, 69, 70, 71, 72, 73, 74, 75, 76, 77, 78, 79, 80, 81, 82, 83, 84, 85, 86, 87, 88, 89, 90, 91, 92, 93, 94, 95, 96, 97, 98, 99, 100, 101, 102, 103, 104, 105, 106, 107, 108, 109, 110, 111, 112, 113, 114, 115, 116] (by decide +kernel) (by decide +kernel)) (goodIn_sub (fun _ h => List.mem_cons_of_mem _ (List.mem_append_left _ (List.mem_append_right _ h))) (by decide +kernel))) (goodIn_sub (fun _ h => List.mem_cons_of_mem _ (List.mem_append_right _ h)) (by decide +kernel))
set_option maxRecDepth 20000 in
theorem gL_pitch_X0_pitch : GoodIn wsL_pitch (wsV RL 63 RX0 yX0_pitch wsX0_pitch) := goodIn_app (goodIn_of _ (by decide +kernel)) ggL_pitch_X0_pitch
theorem dL_pitch_0 : decode cL_pitch 0 = .ok (.aload_n 3, 1) := by decide +kernel
theorem dL_pitch_1 : decode cL_pitch 1 = .ok (.iconst 0, 1) := by decide +kernel
theorem dL_pitch_2 : decode cL_pitch 2 = .ok (.aload_n 0, 1) := by decide +kernel
theorem dL_pitch_3 : decode cL_pitch 3 = .ok (.iload_n 1, 1) := by decide +kernel
theorem dL_pitch_4 : decode cL_pitch 4 = .ok (.iload_n 2, 1) := by decide +kernel
theorem dL_pitch_5 : decode cL_pitch 5 = .ok (.invokevirtual 63, 3) := by decide +kernel
theorem dL_pitch_8 : decode cL_pitch 8 = .ok (.i2l, 1) := by decide +kernel
theorem dL_pitch_9 : decode cL_pitch 9 = .ok (.lastore, 1) := by decide +kernel
theorem dL_pitch_10 : decode cL_pitch 10 = .ok (.goto 11, 3) := by decide +kernel
theorem dL_pitch_13 : decode cL_pitch 13 = .ok (.astore 4, 2) := by decide +kernel
theorem dL_pitch_15 : decode cL_pitch 15 = .ok (.iconst 1, 1) := by decide +kernel
theorem dL_pitch_16 : decode cL_pitch 16 = .ok (.ireturn, 1) := by decide +kernel
theorem dL_pitch_17 : decode cL_pitch 17 = .ok (.astore 4, 2) := by decide +kernel
theorem dL_pitch_19 : decode cL_pitch 19 = .ok (.iconst 2, 1) := by decide +kernel
theorem dL_pitch_20 : decode cL_pitch 20 = .ok (.ireturn, 1) := by decide +kernel
theorem dL_pitch_21 : decode cL_pitch 21 = .ok (.iconst 0, 1) := by decide +kernel
theorem dL_pitch_22 : decode cL_pitch 22 = .ok (.ireturn, 1) := by decide +kernel
set_option maxRecDepth 20000 in
theorem ggL_wear_X0_wear : GoodIn wsL_wear wsX0_wear := goodIn_ca (goodIn_r _ [6, 7, 8, 9, 5, 10, 11, 12, 13, 14, 15, 16, 17, 18, 19, 20, 21, 22, 23, 24, 25, 26, 27, 28, 29, 30, 31, 32, 33] (by decide +kernel) (by decide +kernel)) (goodIn_sub (fun _ h => List.mem_cons_of_mem _ (List.mem_append_right _ h)) (by decide +kernel))
set_option maxRecDepth 20000 in
theorem gL_wear_X0_wear : GoodIn wsL_wear (wsV RL 66 RX0 yX0_wear wsX0_wear) := goodIn_app (goodIn_of _ (by decide +kernel)) ggL_wear_X0_wear
theorem dL_wear_0 : decode cL_wear 0 = .ok (.aload_n 3, 1) := by decide +kernel
theorem dL_wear_1 : decode cL_wear 1 = .ok (.iconst 0, 1) := by decide +kernel
theorem dL_wear_2 : decode cL_wear 2 = .ok (.aload_n 0, 1) := by decide +kernel
theorem dL_wear_3 : decode cL_wear 3 = .ok (.iload_n 1, 1) := by decide +kernel
theorem dL_wear_4 : decode cL_wear 4 = .ok (.iload_n 2, 1) := by decide +kernel
theorem dL_wear_5 : decode cL_wear 5 = .ok (.invokevirtual 66, 3) := by decide +kernel
theorem dL_wear_8 : decode cL_wear 8 = .ok (.i2l, 1) := by decide +kernel
theorem dL_wear_9 : decode cL_wear 9 = .ok (.lastore, 1) := by decide +kernel
theorem dL_wear_10 : decode cL_wear 10 = .ok (.goto 7, 3) := by decide +kernel
theorem dL_wear_13 : decode cL_wear 13 = .ok (.astore 4, 2) := by decide +kernel
theorem dL_wear_15 : decode cL_wear 15 = .ok (.iconst 1, 1) := by decide +kernel
theorem dL_wear_16 : decode cL_wear 16 = .ok (.ireturn, 1) := by decide +kernel
theorem dL_wear_17 : decode cL_wear 17 = .ok (.iconst 0, 1) := by decide +kernel
theorem dL_wear_18 : decode cL_wear 18 = .ok (.ireturn, 1) := by decide +kernel
set_option maxRecDepth 20000 in
theorem ggL_more_X0_more : GoodIn wsL_more wsX0_more := goodIn_ca (goodIn_r _ [6, 7, 8, 5, 9, 10, 11, 12, 13, 14, 15, 16, 17, 18, 19, 20, 21, 22, 23, 24, 25, 26, 27, 28, 29, 30, 31, 32, 33, 34, 35, 36, 37, 38, 39, 40, 41, 42, 43, 44, 45, 46, 47, 48, 49, 50, 51, 52, 53, 54, 55, 56, 57, 58, 59, 60, 61, 62, 63, 64, 65, 66, 67, 68, 69, 70, 71, 72, 73, 74, 75, 76, 77, 78, 79, 80, 81, 82, 83, 84, 85, 86, 87, 88, 89, 90, 91, 92] (by decide +kernel) (by decide +kernel)) (goodIn_sub (fun _ h => List.mem_cons_of_mem _ (List.mem_append_right _ h)) (by decide +kernel))
set_option maxRecDepth 20000 in
theorem gL_more_X0_more : GoodIn wsL_more (wsV RL 69 RX0 yX0_more wsX0_more) := goodIn_app (goodIn_of _ (by decide +kernel)) ggL_more_X0_more
theorem dL_more_0 : decode cL_more 0 = .ok (.aload_n 3, 1) := by decide +kernel
theorem dL_more_1 : decode cL_more 1 = .ok (.iconst 0, 1) := by decide +kernel
theorem dL_more_2 : decode cL_more 2 = .ok (.aload_n 0, 1) := by decide +kernel
theorem dL_more_3 : decode cL_more 3 = .ok (.iload_n 1, 1) := by decide +kernel
theorem dL_more_4 : decode cL_more 4 = .ok (.iload_n 2, 1) := by decide +kernel
theorem dL_more_5 : decode cL_more 5 = .ok (.invokevirtual 69, 3) := by decide +kernel
theorem dL_more_8 : decode cL_more 8 = .ok (.i2l, 1) := by decide +kernel
theorem dL_more_9 : decode cL_more 9 = .ok (.lastore, 1) := by decide +kernel
theorem dL_more_10 : decode cL_more 10 = .ok (.goto 7, 3) := by decide +kernel
theorem dL_more_13 : decode cL_more 13 = .ok (.astore 4, 2) := by decide +kernel
theorem dL_more_15 : decode cL_more 15 = .ok (.iconst 1, 1) := by decide +kernel
theorem dL_more_16 : decode cL_more 16 = .ok (.ireturn, 1) := by decide +kernel
theorem dL_more_17 : decode cL_more 17 = .ok (.iconst 0, 1) := by decide +kernel
theorem dL_more_18 : decode cL_more 18 = .ok (.ireturn, 1) := by decide +kernel
set_option maxRecDepth 20000 in
theorem ggL_law_X0_init : GoodIn wsL_law wsX0_init := goodIn_r _ [9, 10, 11, 12, 13, 14, 15, 16, 17, 18, 19, 20, 21, 22, 6, 23, 24, 25, 26, 27, 28, 29, 460, 461, 462, 463, 464, 465, 466, 467, 468, 469, 470, 471, 472, 473, 474] (by decide +kernel) (by decide +kernel)
set_option maxRecDepth 20000 in
theorem gL_law_X0_init : GoodIn wsL_law (wsX0_init) := ggL_law_X0_init
set_option maxRecDepth 20000 in
theorem ggL_law_X1_init : GoodIn wsL_law wsX1_init := goodIn_r _ [32, 33, 11, 12, 13, 34, 35, 36, 37, 38, 39, 40, 41, 42, 43, 6, 44, 45, 46, 47, 475, 476, 477, 478, 479, 480, 481, 482, 483, 484, 485, 486, 487, 488, 489, 490] (by decide +kernel) (by decide +kernel)
set_option maxRecDepth 20000 in
theorem gL_law_X1_init : GoodIn wsL_law (wsX1_init) := ggL_law_X1_init
set_option maxRecDepth 20000 in
theorem ggL_law_L_setRank : GoodIn wsL_law wsL_setRank := goodIn_ca (goodIn_r _ [51, 52, 53, 54, 55, 2, 56, 14, 28, 15, 16, 57, 58, 59, 60, 61, 62, 63, 64, 460, 461, 462, 463, 464, 465, 466, 467, 468, 469, 470, 471, 472, 473, 474] (by decide +kernel) (by decide +kernel)) (goodIn_sub (fun _ h => List.mem_append_left _ (List.mem_append_right _ h)) (by decide +kernel))
set_option maxRecDepth 20000 in
theorem gL_law_L_setRank : GoodIn wsL_law (va_wsS RL 76 yL_setRank wsL_setRank) := goodIn_app (goodIn_of _ (by decide +kernel)) ggL_law_L_setRank
set_option maxRecDepth 20000 in
theorem ggL_law_X1_setRank : GoodIn wsL_law wsX1_setRank := goodIn_r _ [68, 34, 35, 36, 69, 70, 5, 71, 72, 73, 74, 75, 76, 77, 78, 79, 475, 476, 477, 478, 479, 480, 481, 482, 483, 484, 485, 486, 487, 488, 489, 490] (by decide +kernel) (by decide +kernel)
set_option maxRecDepth 20000 in
theorem gL_law_X1_setRank : GoodIn wsL_law (wsV RL 81 RX1 yX1_setRank wsX1_setRank) := goodIn_app (goodIn_of _ (by decide +kernel)) ggL_law_X1_setRank
set_option maxRecDepth 20000 in
theorem ggL_law_X1_thrown : GoodIn wsL_law wsX1_thrown := goodIn_r _ [83, 79, 475, 476, 477, 478, 479, 480, 481, 482, 483, 484, 485, 486, 487, 488, 489, 490] (by decide +kernel) (by decide +kernel)
set_option maxRecDepth 20000 in
theorem gL_law_X1_thrown : GoodIn wsL_law (wsV RL 82 RX1 yX1_thrown wsX1_thrown) := goodIn_app (goodIn_of _ (by decide +kernel)) ggL_law_X1_thrown
set_option maxRecDepth 20000 in
theorem ggL_law_L_setStop : GoodIn wsL_law wsL_setStop := goodIn_ca (goodIn_ca (goodIn_r _ [86, 52, 87, 88, 89, 90, 2, 91, 92, 93, 19, 20, 94, 95, 96, 60, 61, 62, 63, 64, 97, 98, 99, 57, 58, 59, 100, 101, 102, 103, 104, 460, 461, 462, 463, 464, 465, 466, 467, 468, 469, 470, 471, 472, 473, 474] (by decide +kernel) (by decide +kernel)) (goodIn_sub (fun _ h => List.mem_append_right _ h) (by decide +kernel))) (goodIn_sub (fun _ h => List.mem_append_left _ (List.mem_append_right _ h)) (by decide +kernel))
set_option maxRecDepth 20000 in
theorem gL_law_L_setStop : GoodIn wsL_law (va_wsS RL 86 yL_setStop wsL_setStop) := goodIn_app (goodIn_of _ (by decide +kernel)) ggL_law_L_setStop
set_option maxRecDepth 20000 in
theorem ggL_law_X1_setStop : GoodIn wsL_law wsX1_setStop := goodIn_r _ [108, 109, 37, 38, 72, 73, 5, 74, 110, 111, 112, 69, 70, 71, 113, 114, 115, 75, 76, 77, 78, 79, 475, 476, 477, 478, 479, 480, 481, 482, 483, 484, 485, 486, 487, 488, 489, 490] (by decide +kernel) (by decide +kernel)
set_option maxRecDepth 20000 in
theorem gL_law_X1_setStop : GoodIn wsL_law (wsV RL 89 RX1 yX1_setStop wsX1_setStop) := goodIn_app (goodIn_of _ (by decide +kernel)) ggL_law_X1_setStop
set_option maxRecDepth 20000 in
theorem ggL_law_L_couple : GoodIn wsL_law wsL_couple := goodIn_ca (goodIn_ca (goodIn_r _ [118, 52, 87, 119, 120, 121, 2, 122, 63, 64, 92, 93, 22, 97, 98, 99, 60, 61, 62, 123, 124, 125, 126, 127, 128, 129, 130, 131, 132, 133, 134, 460, 461, 462, 463, 464, 465, 466, 467, 468, 469, 470, 471, 472, 473, 474] (by decide +kernel) (by decide +kernel)) (goodIn_sub (fun _ h => List.mem_append_left _ (List.mem_append_right _ h)) (by decide +kernel))) (goodIn_sub (fun _ h => List.mem_append_right _ h) (by decide +kernel))
set_option maxRecDepth 20000 in
theorem gL_law_L_couple : GoodIn wsL_law (va_wsS RL 90 yL_couple wsL_couple) := goodIn_app (goodIn_of _ (by decide +kernel)) ggL_law_L_couple
set_option maxRecDepth 20000 in
theorem ggL_law_X1_couple : GoodIn wsL_law wsX1_couple := goodIn_r _ [138, 39, 110, 111, 5, 112, 72, 73, 74, 139, 140, 141, 142, 143, 144, 145, 146, 75, 76, 77, 78, 79, 475, 476, 477, 478, 479, 480, 481, 482, 483, 484, 485, 486, 487, 488, 489, 490] (by decide +kernel) (by decide +kernel)
set_option maxRecDepth 20000 in
theorem gL_law_X1_couple : GoodIn wsL_law (wsV RL 93 RX1 yX1_couple wsX1_couple) := goodIn_app (goodIn_of _ (by decide +kernel)) ggL_law_X1_couple
set_option maxRecDepth 20000 in
theorem ggL_law_L_uncouple : GoodIn wsL_law wsL_uncouple := goodIn_ca (goodIn_r _ [149, 52, 150, 151, 152, 2, 153, 22, 97, 98, 99, 60, 61, 62, 63, 64, 127, 128, 129, 130, 460, 461, 462, 463, 464, 465, 466, 467, 468, 469, 470, 471, 472, 473, 474] (by decide +kernel) (by decide +kernel)) (goodIn_sub (fun _ h => List.mem_append_left _ (List.mem_append_right _ h)) (by decide +kernel))
set_option maxRecDepth 20000 in
theorem gL_law_L_uncouple : GoodIn wsL_law (va_wsS RL 94 yL_uncouple wsL_uncouple) := goodIn_app (goodIn_of _ (by decide +kernel)) ggL_law_L_uncouple
set_option maxRecDepth 20000 in
theorem ggL_law_X1_uncouple : GoodIn wsL_law wsX1_uncouple := goodIn_r _ [157, 39, 110, 111, 5, 112, 72, 73, 74, 75, 76, 77, 78, 79, 143, 144, 145, 146, 475, 476, 477, 478, 479, 480, 481, 482, 483, 484, 485, 486, 487, 488, 489, 490] (by decide +kernel) (by decide +kernel)
set_option maxRecDepth 20000 in
theorem gL_law_X1_uncouple : GoodIn wsL_law (wsV RL 97 RX1 yX1_uncouple wsX1_uncouple) := goodIn_app (goodIn_of _ (by decide +kernel)) ggL_law_X1_uncouple
set_option maxRecDepth 20000 in
theorem ggL_law_L_setSupply : GoodIn wsL_law wsL_setSupply := goodIn_ca (goodIn_r _ [160, 52, 161, 162, 163, 2, 164, 29, 60, 61, 62, 63, 64, 460, 461, 462, 463, 464, 465, 466, 467, 468, 469, 470, 471, 472, 473, 474] (by decide +kernel) (by decide +kernel)) (goodIn_sub (fun _ h => List.mem_append_left _ (List.mem_append_right _ h)) (by decide +kernel))
set_option maxRecDepth 20000 in
theorem gL_law_L_setSupply : GoodIn wsL_law (va_wsS RL 98 yL_setSupply wsL_setSupply) := goodIn_app (goodIn_of _ (by decide +kernel)) ggL_law_L_setSupply
set_option maxRecDepth 20000 in
theorem ggL_law_X1_setSupply : GoodIn wsL_law wsX1_setSupply := goodIn_r _ [168, 40, 72, 73, 5, 74, 75, 76, 77, 78, 79, 475, 476, 477, 478, 479, 480, 481, 482, 483, 484, 485, 486, 487, 488, 489, 490] (by decide +kernel) (by decide +kernel)
set_option maxRecDepth 20000 in
theorem gL_law_X1_setSupply : GoodIn wsL_law (wsV RL 101 RX1 yX1_setSupply wsX1_setSupply) := goodIn_app (goodIn_of _ (by decide +kernel)) ggL_law_X1_setSupply
set_option maxRecDepth 20000 in
theorem ggL_law_L_setSag : GoodIn wsL_law wsL_setSag := goodIn_ca (goodIn_r _ [171, 52, 172, 173, 174, 2, 175, 24, 60, 61, 62, 63, 64, 460, 461, 462, 463, 464, 465, 466, 467, 468, 469, 470, 471, 472, 473, 474] (by decide +kernel) (by decide +kernel)) (goodIn_sub (fun _ h => List.mem_append_left _ (List.mem_append_right _ h)) (by decide +kernel))
set_option maxRecDepth 20000 in
theorem gL_law_L_setSag : GoodIn wsL_law (va_wsS RL 102 yL_setSag wsL_setSag) := goodIn_app (goodIn_of _ (by decide +kernel)) ggL_law_L_setSag
set_option maxRecDepth 20000 in
theorem ggL_law_X1_setSag : GoodIn wsL_law wsX1_setSag := goodIn_r _ [179, 41, 72, 73, 5, 74, 75, 76, 77, 78, 79, 475, 476, 477, 478, 479, 480, 481, 482, 483, 484, 485, 486, 487, 488, 489, 490] (by decide +kernel) (by decide +kernel)
set_option maxRecDepth 20000 in
theorem gL_law_X1_setSag : GoodIn wsL_law (wsV RL 104 RX1 yX1_setSag wsX1_setSag) := goodIn_app (goodIn_of _ (by decide +kernel)) ggL_law_X1_setSag
set_option maxRecDepth 20000 in
theorem ggL_law_L_tune : GoodIn wsL_law wsL_tune := goodIn_ca (goodIn_r _ [182, 52, 183, 184, 185, 2, 186, 25, 60, 61, 62, 63, 64, 460, 461, 462, 463, 464, 465, 466, 467, 468, 469, 470, 471, 472, 473, 474] (by decide +kernel) (by decide +kernel)) (goodIn_sub (fun _ h => List.mem_append_left _ (List.mem_append_right _ h)) (by decide +kernel))
set_option maxRecDepth 20000 in
theorem gL_law_L_tune : GoodIn wsL_law (va_wsS RL 105 yL_tune wsL_tune) := goodIn_app (goodIn_of _ (by decide +kernel)) ggL_law_L_tune
set_option maxRecDepth 20000 in
theorem ggL_law_X1_tune : GoodIn wsL_law wsX1_tune := goodIn_r _ [190, 42, 72, 73, 5, 74, 75, 76, 77, 78, 79, 475, 476, 477, 478, 479, 480, 481, 482, 483, 484, 485, 486, 487, 488, 489, 490] (by decide +kernel) (by decide +kernel)
set_option maxRecDepth 20000 in
theorem gL_law_X1_tune : GoodIn wsL_law (wsV RL 107 RX1 yX1_tune wsX1_tune) := goodIn_app (goodIn_of _ (by decide +kernel)) ggL_law_X1_tune
set_option maxRecDepth 20000 in
theorem ggL_law_L_draw : GoodIn wsL_law wsL_draw := goodIn_ca (goodIn_r _ [193, 52, 194, 195, 196, 2, 197, 104, 94, 95, 96, 60, 61, 62, 63, 64, 100, 101, 102, 103, 460, 461, 462, 463, 464, 465, 466, 467, 468, 469, 470, 471, 472, 473, 474] (by decide +kernel) (by decide +kernel)) (goodIn_sub (fun _ h => List.mem_append_left _ (List.mem_append_right _ h)) (by decide +kernel))
set_option maxRecDepth 20000 in
theorem gL_law_L_draw : GoodIn wsL_law (va_wsS RL 108 yL_draw wsL_draw) := goodIn_app (goodIn_of _ (by decide +kernel)) ggL_law_L_draw
set_option maxRecDepth 20000 in
theorem ggL_law_X1_draw : GoodIn wsL_law wsX1_draw := goodIn_r _ [201, 109, 72, 73, 5, 74, 75, 76, 77, 78, 79, 113, 114, 115, 475, 476, 477, 478, 479, 480, 481, 482, 483, 484, 485, 486, 487, 488, 489, 490] (by decide +kernel) (by decide +kernel)
set_option maxRecDepth 20000 in
theorem gL_law_X1_draw : GoodIn wsL_law (wsV RL 111 RX1 yX1_draw wsX1_draw) := goodIn_app (goodIn_of _ (by decide +kernel)) ggL_law_X1_draw
set_option maxRecDepth 20000 in
theorem ggL_law_L_keep : GoodIn wsL_law wsL_keep := goodIn_ca (goodIn_r _ [204, 52, 205, 206, 207, 2, 208, 21, 104, 60, 61, 62, 63, 64, 209, 210, 211, 212, 213, 214, 215, 460, 461, 462, 463, 464, 465, 466, 467, 468, 469, 470, 471, 472, 473, 474] (by decide +kernel) (by decide +kernel)) (goodIn_sub (fun _ h => List.mem_append_left _ (List.mem_append_right _ h)) (by decide +kernel))
set_option maxRecDepth 20000 in
theorem gL_law_L_keep : GoodIn wsL_law (va_wsS RL 112 yL_keep wsL_keep) := goodIn_app (goodIn_of _ (by decide +kernel)) ggL_law_L_keep
set_option maxRecDepth 20000 in
theorem ggL_law_X1_keep : GoodIn wsL_law wsX1_keep := goodIn_r _ [219, 43, 109, 220, 221, 5, 222, 72, 73, 74, 75, 76, 77, 78, 79, 223, 224, 225, 113, 114, 115, 475, 476, 477, 478, 479, 480, 481, 482, 483, 484, 485, 486, 487, 488, 489, 490] (by decide +kernel) (by decide +kernel)
set_option maxRecDepth 20000 in
theorem gL_law_X1_keep : GoodIn wsL_law (wsV RL 114 RX1 yX1_keep wsX1_keep) := goodIn_app (goodIn_of _ (by decide +kernel)) ggL_law_X1_keep
set_option maxRecDepth 20000 in
theorem ggL_law_L_recall : GoodIn wsL_law wsL_recall := goodIn_ca (goodIn_r _ [228, 52, 229, 230, 231, 2, 232, 104, 21, 60, 61, 62, 63, 64, 209, 210, 211, 212, 213, 214, 215, 460, 461, 462, 463, 464, 465, 466, 467, 468, 469, 470, 471, 472, 473, 474] (by decide +kernel) (by decide +kernel)) (goodIn_sub (fun _ h => List.mem_append_left _ (List.mem_append_right _ h)) (by decide +kernel))
set_option maxRecDepth 20000 in
theorem gL_law_L_recall : GoodIn wsL_law (va_wsS RL 115 yL_recall wsL_recall) := goodIn_app (goodIn_of _ (by decide +kernel)) ggL_law_L_recall
set_option maxRecDepth 20000 in
theorem ggL_law_X1_recall : GoodIn wsL_law wsX1_recall := goodIn_r _ [236, 109, 43, 220, 221, 5, 222, 72, 73, 74, 75, 76, 77, 78, 79, 223, 224, 225, 113, 114, 115, 475, 476, 477, 478, 479, 480, 481, 482, 483, 484, 485, 486, 487, 488, 489, 490] (by decide +kernel) (by decide +kernel)
set_option maxRecDepth 20000 in
theorem gL_law_X1_recall : GoodIn wsL_law (wsV RL 117 RX1 yX1_recall wsX1_recall) := goodIn_app (goodIn_of _ (by decide +kernel)) ggL_law_X1_recall
set_option maxRecDepth 20000 in
theorem ggL_law_L_hold : GoodIn wsL_law wsL_hold := goodIn_ca (goodIn_r _ [239, 52, 240, 241, 242, 2, 243, 23, 97, 98, 99, 60, 61, 62, 63, 64, 244, 245, 246, 247, 248, 249, 250, 251, 252, 460, 461, 462, 463, 464, 465, 466, 467, 468, 469, 470, 471, 472, 473, 474] (by decide +kernel) (by decide +kernel)) (goodIn_sub (fun _ h => List.mem_append_left _ (List.mem_append_right _ h)) (by decide +kernel))
set_option maxRecDepth 20000 in
theorem gL_law_L_hold : GoodIn wsL_law (va_wsS RL 118 yL_hold wsL_hold) := goodIn_app (goodIn_of _ (by decide +kernel)) ggL_law_L_hold
set_option maxRecDepth 20000 in
theorem ggL_law_X1_hold : GoodIn wsL_law wsX1_hold := goodIn_r _ [256, 44, 257, 110, 111, 5, 112, 72, 73, 74, 258, 259, 260, 75, 76, 77, 78, 79, 113, 114, 115, 475, 476, 477, 478, 479, 480, 481, 482, 483, 484, 485, 486, 487, 488, 489, 490] (by decide +kernel) (by decide +kernel)
set_option maxRecDepth 20000 in
theorem gL_law_X1_hold : GoodIn wsL_law (wsV RL 121 RX1 yX1_hold wsX1_hold) := goodIn_app (goodIn_of _ (by decide +kernel)) ggL_law_X1_hold
set_option maxRecDepth 20000 in
theorem ggL_law_X0_letGo : GoodIn wsL_law wsX0_letGo := goodIn_r _ [264, 23, 265, 266, 267, 268, 269, 270, 271, 460, 461, 462, 463, 464, 465, 466, 467, 468, 469, 470, 471, 472, 473, 474] (by decide +kernel) (by decide +kernel)
set_option maxRecDepth 20000 in
theorem gL_law_X0_letGo : GoodIn wsL_law (wsV RL 122 RX0 yX0_letGo wsX0_letGo) := goodIn_app (goodIn_of _ (by decide +kernel)) ggL_law_X0_letGo
set_option maxRecDepth 20000 in
theorem ggL_law_X1_letGo : GoodIn wsL_law wsX1_letGo := goodIn_r _ [275, 79, 44, 223, 224, 5, 225, 113, 114, 115, 475, 476, 477, 478, 479, 480, 481, 482, 483, 484, 485, 486, 487, 488, 489, 490] (by decide +kernel) (by decide +kernel)
set_option maxRecDepth 20000 in
theorem gL_law_X1_letGo : GoodIn wsL_law (wsV RL 125 RX1 yX1_letGo wsX1_letGo) := goodIn_app (goodIn_of _ (by decide +kernel)) ggL_law_X1_letGo
set_option maxRecDepth 20000 in
theorem ggL_law_L_sound : GoodIn wsL_law wsL_sound := goodIn_ca (goodIn_r _ [278, 52, 279, 280, 281, 2, 282, 60, 61, 62, 63, 64, 283, 284, 285, 286, 287, 288, 289, 290, 27, 291, 292, 293, 294, 295, 26, 23, 296, 297, 298, 299, 22, 127, 128, 129, 130, 300, 301, 302, 303, 304, 305, 306, 307, 20, 100, 101, 102, 103, 104, 308, 309, 310, 311, 19, 312, 313, 314, 315, 18, 250, 251, 252, 316, 317, 318, 319, 247, 248, 249, 320, 321, 322, 323, 265, 266, 267, 268, 269, 270, 271, 460, 461, 462, 463, 464, 465, 466, 467, 468, 469, 470, 471, 472, 473, 474] (by decide +kernel) (by decide +kernel)) (goodIn_sub (fun _ h => List.mem_append_left _ (List.mem_append_right _ h)) (by decide +kernel))
set_option maxRecDepth 20000 in
theorem gL_law_L_sound : GoodIn wsL_law (va_wsS RL 126 yL_sound wsL_sound) := goodIn_app (goodIn_of _ (by decide +kernel)) ggL_law_L_sound
set_option maxRecDepth 20000 in
theorem ggL_law_X1_sound : GoodIn wsL_law wsX1_sound := goodIn_r _ [327, 45, 47, 72, 73, 5, 74, 75, 76, 77, 78, 79, 328, 329, 330, 331, 332, 333, 334, 335, 109, 38, 46, 37, 257, 336, 337, 338, 339, 44, 39, 340, 113, 114, 115, 341, 342, 343, 344, 35, 223, 224, 225, 475, 476, 477, 478, 479, 480, 481, 482, 483, 484, 485, 486, 487, 488, 489, 490] (by decide +kernel) (by decide +kernel)
set_option maxRecDepth 20000 in
theorem gL_law_X1_sound : GoodIn wsL_law (wsV RL 128 RX1 yX1_sound wsX1_sound) := goodIn_app (goodIn_of _ (by decide +kernel)) ggL_law_X1_sound
set_option maxRecDepth 20000 in
theorem ggL_law_L_repair : GoodIn wsL_law wsL_repair := goodIn_ca (goodIn_r _ [347, 52, 348, 349, 350, 2, 351, 18, 57, 58, 59, 60, 61, 62, 63, 64, 312, 313, 314, 315, 250, 251, 252, 265, 266, 267, 268, 269, 270, 271, 460, 461, 462, 463, 464, 465, 466, 467, 468, 469, 470, 471, 472, 473, 474] (by decide +kernel) (by decide +kernel)) (goodIn_sub (fun _ h => List.mem_append_left _ (List.mem_append_right _ h)) (by decide +kernel))
set_option maxRecDepth 20000 in
theorem gL_law_L_repair : GoodIn wsL_law (va_wsS RL 129 yL_repair wsL_repair) := goodIn_app (goodIn_of _ (by decide +kernel)) ggL_law_L_repair
set_option maxRecDepth 20000 in
theorem ggL_law_X1_repair : GoodIn wsL_law wsX1_repair := goodIn_r _ [355, 45, 69, 70, 5, 71, 72, 73, 74, 75, 76, 77, 78, 79, 475, 476, 477, 478, 479, 480, 481, 482, 483, 484, 485, 486, 487, 488, 489, 490] (by decide +kernel) (by decide +kernel)
set_option maxRecDepth 20000 in
theorem gL_law_X1_repair : GoodIn wsL_law (wsV RL 131 RX1 yX1_repair wsX1_repair) := goodIn_app (goodIn_of _ (by decide +kernel)) ggL_law_X1_repair
set_option maxRecDepth 20000 in
theorem ggL_law_X0_pipes : GoodIn wsL_law wsX0_pipes := goodIn_r _ [359, 283, 284, 285, 2, 286, 287, 288, 289, 290, 27, 291, 292, 293, 294, 295, 26, 23, 296, 297, 298, 299, 22, 127, 128, 129, 130, 300, 301, 302, 303, 304, 305, 306, 307, 20, 100, 101, 102, 103, 104, 308, 309, 310, 311, 19, 312, 313, 314, 315, 18, 250, 251, 252, 320, 321, 322, 323, 265, 266, 267, 268, 269, 270, 271, 460, 461, 462, 463, 464, 465, 466, 467, 468, 469, 470, 471, 472, 473, 474] (by decide +kernel) (by decide +kernel)
set_option maxRecDepth 20000 in
theorem gL_law_X0_pipes : GoodIn wsL_law (wsV RL 132 RX0 yX0_pipes wsX0_pipes) := goodIn_app (goodIn_of _ (by decide +kernel)) ggL_law_X0_pipes
set_option maxRecDepth 20000 in
theorem ggL_law_X1_pipes : GoodIn wsL_law wsX1_pipes := goodIn_r _ [363, 79, 328, 329, 330, 5, 331, 47, 332, 333, 334, 335, 109, 38, 46, 37, 45, 257, 336, 337, 338, 339, 44, 39, 340, 113, 114, 115, 341, 342, 343, 344, 35, 223, 224, 225, 475, 476, 477, 478, 479, 480, 481, 482, 483, 484, 485, 486, 487, 488, 489, 490] (by decide +kernel) (by decide +kernel)
set_option maxRecDepth 20000 in
theorem gL_law_X1_pipes : GoodIn wsL_law (wsV RL 135 RX1 yX1_pipes wsX1_pipes) := goodIn_app (goodIn_of _ (by decide +kernel)) ggL_law_X1_pipes
set_option maxRecDepth 20000 in
theorem ggL_law_L_sounds : GoodIn wsL_law wsL_sounds := goodIn_ca (goodIn_r _ [366, 52, 367, 368, 369, 2, 370, 27, 57, 58, 59, 60, 61, 62, 63, 64, 244, 245, 246, 283, 284, 285, 286, 287, 288, 289, 290, 291, 292, 293, 294, 295, 26, 23, 296, 297, 298, 299, 22, 127, 128, 129, 130, 300, 301, 302, 303, 304, 305, 306, 307, 20, 100, 101, 102, 103, 104, 308, 309, 310, 311, 19, 312, 313, 314, 315, 18, 250, 251, 252, 247, 248, 249, 460, 461, 462, 463, 464, 465, 466, 467, 468, 469, 470, 471, 472, 473, 474] (by decide +kernel) (by decide +kernel)) (goodIn_sub (fun _ h => List.mem_append_left _ (List.mem_append_right _ h)) (by decide +kernel))
set_option maxRecDepth 20000 in
theorem gL_law_L_sounds : GoodIn wsL_law (va_wsS RL 136 yL_sounds wsL_sounds) := goodIn_app (goodIn_of _ (by decide +kernel)) ggL_law_L_sounds
set_option maxRecDepth 20000 in
theorem ggL_law_X1_sounds : GoodIn wsL_law wsX1_sounds := goodIn_r _ [374, 47, 69, 70, 5, 71, 72, 73, 74, 258, 259, 260, 75, 76, 77, 78, 79, 332, 333, 334, 335, 109, 38, 46, 37, 45, 257, 336, 337, 338, 339, 44, 39, 340, 113, 114, 115, 341, 342, 343, 344, 35, 475, 476, 477, 478, 479, 480, 481, 482, 483, 484, 485, 486, 487, 488, 489, 490] (by decide +kernel) (by decide +kernel)
set_option maxRecDepth 20000 in
theorem gL_law_X1_sounds : GoodIn wsL_law (wsV RL 138 RX1 yX1_sounds wsX1_sounds) := goodIn_app (goodIn_of _ (by decide +kernel)) ggL_law_X1_sounds
set_option maxRecDepth 20000 in
theorem ggL_law_X0_need : GoodIn wsL_law wsX0_need := goodIn_r _ [378, 283, 284, 285, 2, 286, 287, 288, 289, 290, 27, 291, 292, 293, 294, 295, 26, 23, 296, 297, 298, 299, 22, 127, 128, 129, 130, 300, 301, 302, 303, 304, 305, 306, 307, 20, 100, 101, 102, 103, 104, 308, 309, 310, 311, 19, 312, 313, 314, 315, 18, 250, 251, 252, 379, 380, 381, 382, 15, 247, 248, 249, 460, 461, 462, 463, 464, 465, 466, 467, 468, 469, 470, 471, 472, 473, 474] (by decide +kernel) (by decide +kernel)
set_option maxRecDepth 20000 in
theorem gL_law_X0_need : GoodIn wsL_law (wsV RL 139 RX0 yX0_need wsX0_need) := goodIn_app (goodIn_of _ (by decide +kernel)) ggL_law_X0_need
set_option maxRecDepth 20000 in
theorem ggL_law_X1_need : GoodIn wsL_law wsX1_need := goodIn_r _ [386, 79, 332, 333, 334, 5, 335, 109, 38, 46, 37, 45, 257, 47, 336, 337, 338, 339, 44, 39, 340, 113, 114, 115, 341, 342, 343, 344, 35, 475, 476, 477, 478, 479, 480, 481, 482, 483, 484, 485, 486, 487, 488, 489, 490] (by decide +kernel) (by decide +kernel)
set_option maxRecDepth 20000 in
theorem gL_law_X1_need : GoodIn wsL_law (wsV RL 142 RX1 yX1_need wsX1_need) := goodIn_app (goodIn_of _ (by decide +kernel)) ggL_law_X1_need
set_option maxRecDepth 20000 in
theorem ggL_law_X0_sagStep : GoodIn wsL_law wsX0_sagStep := goodIn_r _ [390, 283, 284, 285, 2, 286, 287, 288, 289, 290, 27, 291, 292, 293, 294, 295, 26, 23, 296, 297, 298, 299, 22, 127, 128, 129, 130, 300, 301, 302, 303, 304, 305, 306, 307, 20, 100, 101, 102, 103, 104, 308, 309, 310, 311, 19, 312, 313, 314, 315, 18, 250, 251, 252, 379, 380, 381, 382, 15, 247, 248, 249, 391, 392, 393, 394, 29, 395, 396, 397, 398, 460, 461, 462, 463, 464, 465, 466, 467, 468, 469, 470, 471, 472, 473, 474] (by decide +kernel) (by decide +kernel)
set_option maxRecDepth 20000 in
theorem gL_law_X0_sagStep : GoodIn wsL_law (wsV RL 143 RX0 yX0_sagStep wsX0_sagStep) := goodIn_app (goodIn_of _ (by decide +kernel)) ggL_law_X0_sagStep
set_option maxRecDepth 20000 in
theorem ggL_law_X1_sagStep : GoodIn wsL_law wsX1_sagStep := goodIn_r _ [402, 79, 332, 333, 334, 5, 335, 109, 38, 46, 37, 45, 257, 47, 336, 337, 338, 339, 44, 39, 340, 113, 114, 115, 341, 342, 343, 344, 35, 403, 404, 405, 406, 40, 475, 476, 477, 478, 479, 480, 481, 482, 483, 484, 485, 486, 487, 488, 489, 490] (by decide +kernel) (by decide +kernel)
set_option maxRecDepth 20000 in
theorem gL_law_X1_sagStep : GoodIn wsL_law (wsV RL 146 RX1 yX1_sagStep wsX1_sagStep) := goodIn_app (goodIn_of _ (by decide +kernel)) ggL_law_X1_sagStep
set_option maxRecDepth 20000 in
theorem ggL_law_L_pitch : GoodIn wsL_law wsL_pitch := goodIn_ca (goodIn_ca (goodIn_r _ [409, 52, 87, 410, 411, 412, 2, 413, 92, 93, 27, 57, 58, 59, 60, 61, 62, 63, 64, 244, 245, 246, 283, 284, 285, 286, 287, 288, 289, 290, 291, 292, 293, 294, 295, 26, 23, 296, 297, 298, 299, 22, 127, 128, 129, 130, 300, 301, 302, 303, 304, 305, 306, 307, 20, 100, 101, 102, 103, 104, 308, 309, 310, 311, 19, 312, 313, 314, 315, 18, 250, 251, 252, 247, 248, 249, 414, 415, 416, 417, 14, 25, 16, 418, 419, 420, 421, 24, 379, 380, 381, 382, 15, 391, 392, 393, 394, 29, 395, 396, 397, 398, 460, 461, 462, 463, 464, 465, 466, 467, 468, 469, 470, 471, 472, 473, 474] (by decide +kernel) (by decide +kernel)) (goodIn_sub (fun _ h => List.mem_append_right _ h) (by decide +kernel))) (goodIn_sub (fun _ h => List.mem_append_left _ (List.mem_append_right _ h)) (by decide +kernel))
set_option maxRecDepth 20000 in
theorem gL_law_L_pitch : GoodIn wsL_law (va_wsS RL 147 yL_pitch wsL_pitch) := goodIn_app (goodIn_of _ (by decide +kernel)) ggL_law_L_pitch
set_option maxRecDepth 20000 in
theorem ggL_law_X1_pitch : GoodIn wsL_law wsX1_pitch := goodIn_r _ [425, 47, 69, 70, 5, 71, 72, 73, 74, 258, 259, 260, 332, 333, 334, 335, 109, 38, 46, 37, 45, 257, 336, 337, 338, 339, 44, 39, 340, 113, 114, 115, 341, 342, 343, 344, 35, 75, 76, 77, 78, 79, 403, 404, 405, 406, 40, 426, 427, 428, 429, 34, 42, 36, 41, 475, 476, 477, 478, 479, 480, 481, 482, 483, 484, 485, 486, 487, 488, 489, 490] (by decide +kernel) (by decide +kernel)
set_option maxRecDepth 20000 in
theorem gL_law_X1_pitch : GoodIn wsL_law (wsV RL 149 RX1 yX1_pitch wsX1_pitch) := goodIn_app (goodIn_of _ (by decide +kernel)) ggL_law_X1_pitch
set_option maxRecDepth 20000 in
theorem ggL_law_X0_lowest : GoodIn wsL_law wsX0_lowest := goodIn_r _ [433, 27, 395, 396, 397, 398, 283, 284, 285, 2, 286, 287, 288, 289, 290, 291, 292, 293, 294, 295, 26, 23, 296, 297, 298, 299, 22, 127, 128, 129, 130, 300, 301, 302, 303, 304, 305, 306, 307, 20, 100, 101, 102, 103, 104, 308, 309, 310, 311, 19, 312, 313, 314, 315, 18, 250, 251, 252, 247, 248, 249, 414, 415, 416, 417, 14, 25, 16, 418, 419, 420, 421, 24, 379, 380, 381, 382, 15, 391, 392, 393, 394, 29, 460, 461, 462, 463, 464, 465, 466, 467, 468, 469, 470, 471, 472, 473, 474] (by decide +kernel) (by decide +kernel)
set_option maxRecDepth 20000 in
theorem gL_law_X0_lowest : GoodIn wsL_law (wsV RL 150 RX0 yX0_lowest wsX0_lowest) := goodIn_app (goodIn_of _ (by decide +kernel)) ggL_law_X0_lowest
set_option maxRecDepth 20000 in
theorem ggL_law_X1_lowest : GoodIn wsL_law wsX1_lowest := goodIn_r _ [437, 79, 47, 332, 333, 334, 5, 335, 109, 38, 46, 37, 45, 257, 336, 337, 338, 339, 44, 39, 340, 113, 114, 115, 341, 342, 343, 344, 35, 403, 404, 405, 406, 40, 426, 427, 428, 429, 34, 42, 36, 41, 475, 476, 477, 478, 479, 480, 481, 482, 483, 484, 485, 486, 487, 488, 489, 490] (by decide +kernel) (by decide +kernel)
set_option maxRecDepth 20000 in
theorem gL_law_X1_lowest : GoodIn wsL_law (wsV RL 153 RX1 yX1_lowest wsX1_lowest) := goodIn_app (goodIn_of _ (by decide +kernel)) ggL_law_X1_lowest
set_option maxRecDepth 20000 in
theorem ggL_law_L_wear : GoodIn wsL_law wsL_wear := goodIn_ca (goodIn_r _ [440, 52, 441, 442, 443, 2, 444, 18, 57, 58, 59, 60, 61, 62, 63, 64, 244, 245, 246, 460, 461, 462, 463, 464, 465, 466, 467, 468, 469, 470, 471, 472, 473, 474] (by decide +kernel) (by decide +kernel)) (goodIn_sub (fun _ h => List.mem_append_left _ (List.mem_append_right _ h)) (by decide +kernel))
set_option maxRecDepth 20000 in
theorem gL_law_L_wear : GoodIn wsL_law (va_wsS RL 154 yL_wear wsL_wear) := goodIn_app (goodIn_of _ (by decide +kernel)) ggL_law_L_wear
set_option maxRecDepth 20000 in
theorem ggL_law_X1_wear : GoodIn wsL_law wsX1_wear := goodIn_r _ [448, 45, 69, 70, 5, 71, 72, 73, 74, 258, 259, 260, 75, 76, 77, 78, 79, 475, 476, 477, 478, 479, 480, 481, 482, 483, 484, 485, 486, 487, 488, 489, 490] (by decide +kernel) (by decide +kernel)
set_option maxRecDepth 20000 in
theorem gL_law_X1_wear : GoodIn wsL_law (wsV RL 156 RX1 yX1_wear wsX1_wear) := goodIn_app (goodIn_of _ (by decide +kernel)) ggL_law_X1_wear
set_option maxRecDepth 20000 in
theorem ggL_law_L_more : GoodIn wsL_law wsL_more := goodIn_ca (goodIn_r _ [451, 52, 452, 453, 454, 2, 455, 97, 98, 99, 60, 61, 62, 63, 64, 244, 245, 246, 283, 284, 285, 286, 287, 288, 289, 290, 27, 291, 292, 293, 294, 295, 26, 23, 296, 297, 298, 299, 22, 127, 128, 129, 130, 300, 301, 302, 303, 304, 305, 306, 307, 20, 100, 101, 102, 103, 104, 308, 309, 310, 311, 19, 312, 313, 314, 315, 18, 250, 251, 252, 379, 380, 381, 382, 15, 247, 248, 249, 460, 461, 462, 463, 464, 465, 466, 467, 468, 469, 470, 471, 472, 473, 474] (by decide +kernel) (by decide +kernel)) (goodIn_sub (fun _ h => List.mem_append_left _ (List.mem_append_right _ h)) (by decide +kernel))
set_option maxRecDepth 20000 in
theorem gL_law_L_more : GoodIn wsL_law (va_wsS RL 157 yL_more wsL_more) := goodIn_app (goodIn_of _ (by decide +kernel)) ggL_law_L_more
set_option maxRecDepth 20000 in
theorem ggL_law_X1_more : GoodIn wsL_law wsX1_more := goodIn_r _ [459, 44, 257, 110, 111, 5, 112, 72, 73, 74, 258, 259, 260, 75, 76, 77, 78, 79, 113, 114, 115, 332, 333, 334, 335, 109, 38, 46, 37, 45, 47, 336, 337, 338, 339, 39, 340, 341, 342, 343, 344, 35, 475, 476, 477, 478, 479, 480, 481, 482, 483, 484, 485, 486, 487, 488, 489, 490] (by decide +kernel) (by decide +kernel)
set_option maxRecDepth 20000 in
theorem gL_law_X1_more : GoodIn wsL_law (wsV RL 159 RX1 yX1_more wsX1_more) := goodIn_app (goodIn_of _ (by decide +kernel)) ggL_law_X1_more
