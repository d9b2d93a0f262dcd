set_option maxRecDepth 20000 in
theorem ggL_addTrain_X5_addTrain : GoodIn wsL_addTrain wsX5_addTrain := goodIn_ca (goodIn_ca (goodIn_r _ [7, 8, 9, 10, 11, 12, 13, 6, 14, 15, 16, 17, 18, 19, 20, 21, 22, 23, 24, 25, 26, 27, 28, 29, 30, 31, 32, 33, 34, 35, 36, 37, 38, 39, 40, 41] (by decide +kernel) (by decide +kernel)) (goodIn_sub (fun _ h => List.mem_cons_of_mem _ (List.mem_append_left _ (List.mem_append_right _ h))) (by decide +kernel))) (goodIn_sub (fun _ h => List.mem_cons_of_mem _ (List.mem_append_right _ h)) (by decide +kernel))
set_option maxRecDepth 20000 in
theorem gL_addTrain_X5_addTrain : GoodIn wsL_addTrain (wsV RL 7 RX5 yX5_addTrain wsX5_addTrain) := goodIn_app (goodIn_of _ (by decide +kernel)) ggL_addTrain_X5_addTrain
theorem dL_addTrain_0 : decode cL_addTrain 0 = .ok (.aload_n 3, 1) := by decide +kernel
theorem dL_addTrain_1 : decode cL_addTrain 1 = .ok (.iconst 0, 1) := by decide +kernel
theorem dL_addTrain_2 : decode cL_addTrain 2 = .ok (.aload_n 0, 1) := by decide +kernel
theorem dL_addTrain_3 : decode cL_addTrain 3 = .ok (.iload_n 1, 1) := by decide +kernel
theorem dL_addTrain_4 : decode cL_addTrain 4 = .ok (.iload_n 2, 1) := by decide +kernel
theorem dL_addTrain_5 : decode cL_addTrain 5 = .ok (.invokevirtual 7, 3) := by decide +kernel
theorem dL_addTrain_8 : decode cL_addTrain 8 = .ok (.i2l, 1) := by decide +kernel
theorem dL_addTrain_9 : decode cL_addTrain 9 = .ok (.lastore, 1) := by decide +kernel
theorem dL_addTrain_10 : decode cL_addTrain 10 = .ok (.goto 11, 3) := by decide +kernel
theorem dL_addTrain_13 : decode cL_addTrain 13 = .ok (.astore 4, 2) := by decide +kernel
theorem dL_addTrain_15 : decode cL_addTrain 15 = .ok (.iconst 1, 1) := by decide +kernel
theorem dL_addTrain_16 : decode cL_addTrain 16 = .ok (.ireturn, 1) := by decide +kernel
theorem dL_addTrain_17 : decode cL_addTrain 17 = .ok (.astore 4, 2) := by decide +kernel
theorem dL_addTrain_19 : decode cL_addTrain 19 = .ok (.iconst 2, 1) := by decide +kernel
theorem dL_addTrain_20 : decode cL_addTrain 20 = .ok (.ireturn, 1) := by decide +kernel
theorem dL_addTrain_21 : decode cL_addTrain 21 = .ok (.iconst 0, 1) := by decide +kernel
theorem dL_addTrain_22 : decode cL_addTrain 22 = .ok (.ireturn, 1) := by decide +kernel
set_option maxRecDepth 20000 in
theorem ggL_hold_X5_hold : GoodIn wsL_hold wsX5_hold := goodIn_ca (goodIn_r _ [6, 7, 8, 9, 10, 11, 5, 12, 13, 14, 15, 16, 17, 18, 19, 20, 21, 22, 23, 24, 25, 26, 27, 28] (by decide +kernel) (by decide +kernel)) (goodIn_sub (fun _ h => List.mem_cons_of_mem _ (List.mem_append_right _ h)) (by decide +kernel))
set_option maxRecDepth 20000 in
theorem gL_hold_X5_hold : GoodIn wsL_hold (wsV RL 17 RX5 yX5_hold wsX5_hold) := goodIn_app (goodIn_of _ (by decide +kernel)) ggL_hold_X5_hold
theorem dL_hold_0 : decode cL_hold 0 = .ok (.aload_n 3, 1) := by decide +kernel
theorem dL_hold_1 : decode cL_hold 1 = .ok (.iconst 0, 1) := by decide +kernel
theorem dL_hold_2 : decode cL_hold 2 = .ok (.aload_n 0, 1) := by decide +kernel
theorem dL_hold_3 : decode cL_hold 3 = .ok (.iload_n 1, 1) := by decide +kernel
theorem dL_hold_4 : decode cL_hold 4 = .ok (.iload_n 2, 1) := by decide +kernel
theorem dL_hold_5 : decode cL_hold 5 = .ok (.invokevirtual 17, 3) := by decide +kernel
theorem dL_hold_8 : decode cL_hold 8 = .ok (.ifCond .eq 7, 3) := by decide +kernel
theorem dL_hold_11 : decode cL_hold 11 = .ok (.lconst 1, 1) := by decide +kernel
theorem dL_hold_12 : decode cL_hold 12 = .ok (.goto 4, 3) := by decide +kernel
theorem dL_hold_15 : decode cL_hold 15 = .ok (.lconst 0, 1) := by decide +kernel
theorem dL_hold_16 : decode cL_hold 16 = .ok (.lastore, 1) := by decide +kernel
theorem dL_hold_17 : decode cL_hold 17 = .ok (.goto 7, 3) := by decide +kernel
theorem dL_hold_20 : decode cL_hold 20 = .ok (.astore 4, 2) := by decide +kernel
theorem dL_hold_22 : decode cL_hold 22 = .ok (.iconst 1, 1) := by decide +kernel
theorem dL_hold_23 : decode cL_hold 23 = .ok (.ireturn, 1) := by decide +kernel
theorem dL_hold_24 : decode cL_hold 24 = .ok (.iconst 0, 1) := by decide +kernel
theorem dL_hold_25 : decode cL_hold 25 = .ok (.ireturn, 1) := by decide +kernel
set_option maxRecDepth 20000 in
theorem ggL_delay_X5_delay : GoodIn wsL_delay wsX5_delay := goodIn_ca (goodIn_ca (goodIn_r _ [7, 8, 9, 10, 11, 12, 13, 14, 6, 15, 16, 17, 18, 19, 20, 21, 22, 23, 24, 25, 26, 27, 28, 29, 30, 31, 32, 33, 34] (by decide +kernel) (by decide +kernel)) (goodIn_sub (fun _ h => List.mem_cons_of_mem _ (List.mem_append_left _ (List.mem_append_right _ h))) (by decide +kernel))) (goodIn_sub (fun _ h => List.mem_cons_of_mem _ (List.mem_append_right _ h)) (by decide +kernel))
set_option maxRecDepth 20000 in
theorem gL_delay_X5_delay : GoodIn wsL_delay (wsV RL 21 RX5 yX5_delay wsX5_delay) := goodIn_app (goodIn_of _ (by decide +kernel)) ggL_delay_X5_delay
theorem dL_delay_0 : decode cL_delay 0 = .ok (.aload_n 3, 1) := by decide +kernel
theorem dL_delay_1 : decode cL_delay 1 = .ok (.iconst 0, 1) := by decide +kernel
theorem dL_delay_2 : decode cL_delay 2 = .ok (.aload_n 0, 1) := by decide +kernel
theorem dL_delay_3 : decode cL_delay 3 = .ok (.iload_n 1, 1) := by decide +kernel
theorem dL_delay_4 : decode cL_delay 4 = .ok (.iload_n 2, 1) := by decide +kernel
theorem dL_delay_5 : decode cL_delay 5 = .ok (.invokevirtual 21, 3) := by decide +kernel
theorem dL_delay_8 : decode cL_delay 8 = .ok (.i2l, 1) := by decide +kernel
theorem dL_delay_9 : decode cL_delay 9 = .ok (.lastore, 1) := by decide +kernel
theorem dL_delay_10 : decode cL_delay 10 = .ok (.goto 11, 3) := by decide +kernel
theorem dL_delay_13 : decode cL_delay 13 = .ok (.astore 4, 2) := by decide +kernel
theorem dL_delay_15 : decode cL_delay 15 = .ok (.iconst 1, 1) := by decide +kernel
theorem dL_delay_16 : decode cL_delay 16 = .ok (.ireturn, 1) := by decide +kernel
theorem dL_delay_17 : decode cL_delay 17 = .ok (.astore 4, 2) := by decide +kernel
theorem dL_delay_19 : decode cL_delay 19 = .ok (.iconst 2, 1) := by decide +kernel
theorem dL_delay_20 : decode cL_delay 20 = .ok (.ireturn, 1) := by decide +kernel
theorem dL_delay_21 : decode cL_delay 21 = .ok (.iconst 0, 1) := by decide +kernel
theorem dL_delay_22 : decode cL_delay 22 = .ok (.ireturn, 1) := by decide +kernel
set_option maxRecDepth 20000 in
theorem ggL_reverse_X5_reverse : GoodIn wsL_reverse wsX5_reverse := goodIn_ca (goodIn_r _ [6, 7, 8, 9, 10, 5, 11, 12, 13, 14, 15, 16, 17, 18, 19, 20, 21, 22, 23, 24, 25, 26, 27, 28, 29, 30, 31, 32, 33] (by decide +kernel) (by decide +kernel)) (goodIn_sub (fun _ h => List.mem_cons_of_mem _ (List.mem_append_right _ h)) (by decide +kernel))
set_option maxRecDepth 20000 in
theorem gL_reverse_X5_reverse : GoodIn wsL_reverse (wsV RL 27 RX5 yX5_reverse wsX5_reverse) := goodIn_app (goodIn_of _ (by decide +kernel)) ggL_reverse_X5_reverse
theorem dL_reverse_0 : decode cL_reverse 0 = .ok (.aload_n 2, 1) := by decide +kernel
theorem dL_reverse_1 : decode cL_reverse 1 = .ok (.iconst 0, 1) := by decide +kernel
theorem dL_reverse_2 : decode cL_reverse 2 = .ok (.aload_n 0, 1) := by decide +kernel
theorem dL_reverse_3 : decode cL_reverse 3 = .ok (.iload_n 1, 1) := by decide +kernel
theorem dL_reverse_4 : decode cL_reverse 4 = .ok (.invokevirtual 27, 3) := by decide +kernel
theorem dL_reverse_7 : decode cL_reverse 7 = .ok (.ifCond .eq 7, 3) := by decide +kernel
theorem dL_reverse_10 : decode cL_reverse 10 = .ok (.lconst 1, 1) := by decide +kernel
theorem dL_reverse_11 : decode cL_reverse 11 = .ok (.goto 4, 3) := by decide +kernel
theorem dL_reverse_14 : decode cL_reverse 14 = .ok (.lconst 0, 1) := by decide +kernel
theorem dL_reverse_15 : decode cL_reverse 15 = .ok (.lastore, 1) := by decide +kernel
theorem dL_reverse_16 : decode cL_reverse 16 = .ok (.goto 6, 3) := by decide +kernel
theorem dL_reverse_19 : decode cL_reverse 19 = .ok (.astore_n 3, 1) := by decide +kernel
theorem dL_reverse_20 : decode cL_reverse 20 = .ok (.iconst 1, 1) := by decide +kernel
theorem dL_reverse_21 : decode cL_reverse 21 = .ok (.ireturn, 1) := by decide +kernel
theorem dL_reverse_22 : decode cL_reverse 22 = .ok (.iconst 0, 1) := by decide +kernel
theorem dL_reverse_23 : decode cL_reverse 23 = .ok (.ireturn, 1) := by decide +kernel
set_option maxRecDepth 20000 in
theorem ggL_throwSwitch_X5_throwSwitch : GoodIn wsL_throwSwitch wsX5_throwSwitch := goodIn_ca (goodIn_r _ [6, 7, 8, 9, 10, 11, 12, 13, 14, 15, 16, 17, 18, 19, 20, 21, 22, 23, 24] (by decide +kernel) (by decide +kernel)) (goodIn_sub (fun _ h => List.mem_cons_of_mem _ (List.mem_append_right _ h)) (by decide +kernel))
set_option maxRecDepth 20000 in
theorem gL_throwSwitch_X5_throwSwitch : GoodIn wsL_throwSwitch (wsV RL 31 RX5 yX5_throwSwitch wsX5_throwSwitch) := goodIn_app (goodIn_of _ (by decide +kernel)) ggL_throwSwitch_X5_throwSwitch
theorem dL_throwSwitch_0 : decode cL_throwSwitch 0 = .ok (.aload_n 2, 1) := by decide +kernel
theorem dL_throwSwitch_1 : decode cL_throwSwitch 1 = .ok (.iconst 0, 1) := by decide +kernel
theorem dL_throwSwitch_2 : decode cL_throwSwitch 2 = .ok (.aload_n 0, 1) := by decide +kernel
theorem dL_throwSwitch_3 : decode cL_throwSwitch 3 = .ok (.iload_n 1, 1) := by decide +kernel
theorem dL_throwSwitch_4 : decode cL_throwSwitch 4 = .ok (.invokevirtual 31, 3) := by decide +kernel
theorem dL_throwSwitch_7 : decode cL_throwSwitch 7 = .ok (.ifCond .eq 7, 3) := by decide +kernel
theorem dL_throwSwitch_10 : decode cL_throwSwitch 10 = .ok (.lconst 1, 1) := by decide +kernel
theorem dL_throwSwitch_11 : decode cL_throwSwitch 11 = .ok (.goto 4, 3) := by decide +kernel
theorem dL_throwSwitch_14 : decode cL_throwSwitch 14 = .ok (.lconst 0, 1) := by decide +kernel
theorem dL_throwSwitch_15 : decode cL_throwSwitch 15 = .ok (.lastore, 1) := by decide +kernel
theorem dL_throwSwitch_16 : decode cL_throwSwitch 16 = .ok (.goto 6, 3) := by decide +kernel
theorem dL_throwSwitch_19 : decode cL_throwSwitch 19 = .ok (.astore_n 3, 1) := by decide +kernel
theorem dL_throwSwitch_20 : decode cL_throwSwitch 20 = .ok (.iconst 1, 1) := by decide +kernel
theorem dL_throwSwitch_21 : decode cL_throwSwitch 21 = .ok (.ireturn, 1) := by decide +kernel
theorem dL_throwSwitch_22 : decode cL_throwSwitch 22 = .ok (.iconst 0, 1) := by decide +kernel
theorem dL_throwSwitch_23 : decode cL_throwSwitch 23 = .ok (.ireturn, 1) := by decide +kernel
set_option maxRecDepth 20000 in
theorem ggL_block_X5_block : GoodIn wsL_block wsX5_block := goodIn_ca (goodIn_r _ [6, 7, 8, 9, 10, 11, 5, 12, 13, 14, 15, 16, 17, 18, 19, 20, 21, 22, 23, 24, 25, 26, 27, 28] (by decide +kernel) (by decide +kernel)) (goodIn_sub (fun _ h => List.mem_cons_of_mem _ (List.mem_append_right _ h)) (by decide +kernel))
set_option maxRecDepth 20000 in
theorem gL_block_X5_block : GoodIn wsL_block (wsV RL 34 RX5 yX5_block wsX5_block) := goodIn_app (goodIn_of _ (by decide +kernel)) ggL_block_X5_block
theorem dL_block_0 : decode cL_block 0 = .ok (.aload_n 2, 1) := by decide +kernel
theorem dL_block_1 : decode cL_block 1 = .ok (.iconst 0, 1) := by decide +kernel
theorem dL_block_2 : decode cL_block 2 = .ok (.aload_n 0, 1) := by decide +kernel
theorem dL_block_3 : decode cL_block 3 = .ok (.iload_n 1, 1) := by decide +kernel
theorem dL_block_4 : decode cL_block 4 = .ok (.invokevirtual 34, 3) := by decide +kernel
theorem dL_block_7 : decode cL_block 7 = .ok (.i2l, 1) := by decide +kernel
theorem dL_block_8 : decode cL_block 8 = .ok (.lastore, 1) := by decide +kernel
theorem dL_block_9 : decode cL_block 9 = .ok (.goto 6, 3) := by decide +kernel
theorem dL_block_12 : decode cL_block 12 = .ok (.astore_n 3, 1) := by decide +kernel
theorem dL_block_13 : decode cL_block 13 = .ok (.iconst 1, 1) := by decide +kernel
theorem dL_block_14 : decode cL_block 14 = .ok (.ireturn, 1) := by decide +kernel
theorem dL_block_15 : decode cL_block 15 = .ok (.iconst 0, 1) := by decide +kernel
theorem dL_block_16 : decode cL_block 16 = .ok (.ireturn, 1) := by decide +kernel
set_option maxRecDepth 20000 in
theorem ggL_isRight_X5_isRight : GoodIn wsL_isRight wsX5_isRight := goodIn_ca (goodIn_r _ [6, 7, 8, 9, 10, 11, 5, 12, 13, 14, 15, 16, 17, 18, 19, 20, 21, 22, 23, 24, 25, 26, 27, 28] (by decide +kernel) (by decide +kernel)) (goodIn_sub (fun _ h => List.mem_cons_of_mem _ (List.mem_append_right _ h)) (by decide +kernel))
set_option maxRecDepth 20000 in
theorem gL_isRight_X5_isRight : GoodIn wsL_isRight (wsV RL 38 RX5 yX5_isRight wsX5_isRight) := goodIn_app (goodIn_of _ (by decide +kernel)) ggL_isRight_X5_isRight
theorem dL_isRight_0 : decode cL_isRight 0 = .ok (.aload_n 2, 1) := by decide +kernel
theorem dL_isRight_1 : decode cL_isRight 1 = .ok (.iconst 0, 1) := by decide +kernel
theorem dL_isRight_2 : decode cL_isRight 2 = .ok (.aload_n 0, 1) := by decide +kernel
theorem dL_isRight_3 : decode cL_isRight 3 = .ok (.iload_n 1, 1) := by decide +kernel
theorem dL_isRight_4 : decode cL_isRight 4 = .ok (.invokevirtual 38, 3) := by decide +kernel
theorem dL_isRight_7 : decode cL_isRight 7 = .ok (.ifCond .eq 7, 3) := by decide +kernel
theorem dL_isRight_10 : decode cL_isRight 10 = .ok (.lconst 1, 1) := by decide +kernel
theorem dL_isRight_11 : decode cL_isRight 11 = .ok (.goto 4, 3) := by decide +kernel
theorem dL_isRight_14 : decode cL_isRight 14 = .ok (.lconst 0, 1) := by decide +kernel
theorem dL_isRight_15 : decode cL_isRight 15 = .ok (.lastore, 1) := by decide +kernel
theorem dL_isRight_16 : decode cL_isRight 16 = .ok (.goto 6, 3) := by decide +kernel
theorem dL_isRight_19 : decode cL_isRight 19 = .ok (.astore_n 3, 1) := by decide +kernel
theorem dL_isRight_20 : decode cL_isRight 20 = .ok (.iconst 1, 1) := by decide +kernel
theorem dL_isRight_21 : decode cL_isRight 21 = .ok (.ireturn, 1) := by decide +kernel
theorem dL_isRight_22 : decode cL_isRight 22 = .ok (.iconst 0, 1) := by decide +kernel
theorem dL_isRight_23 : decode cL_isRight 23 = .ok (.ireturn, 1) := by decide +kernel
set_option maxRecDepth 20000 in
theorem ggL_trainOn_X5_trainOn : GoodIn wsL_trainOn wsX5_trainOn := goodIn_ca (goodIn_r _ [6, 7, 8, 9, 5, 10, 11, 12, 13, 14, 15, 16, 17, 18, 19, 20, 21, 22, 23, 24, 25, 26, 27, 28, 29, 30, 31, 32] (by decide +kernel) (by decide +kernel)) (goodIn_sub (fun _ h => List.mem_cons_of_mem _ (List.mem_append_right _ h)) (by decide +kernel))
set_option maxRecDepth 20000 in
theorem gL_trainOn_X5_trainOn : GoodIn wsL_trainOn (wsV RL 41 RX5 yX5_trainOn wsX5_trainOn) := goodIn_app (goodIn_of _ (by decide +kernel)) ggL_trainOn_X5_trainOn
theorem dL_trainOn_0 : decode cL_trainOn 0 = .ok (.aload_n 2, 1) := by decide +kernel
theorem dL_trainOn_1 : decode cL_trainOn 1 = .ok (.iconst 0, 1) := by decide +kernel
theorem dL_trainOn_2 : decode cL_trainOn 2 = .ok (.aload_n 0, 1) := by decide +kernel
theorem dL_trainOn_3 : decode cL_trainOn 3 = .ok (.iload_n 1, 1) := by decide +kernel
theorem dL_trainOn_4 : decode cL_trainOn 4 = .ok (.invokevirtual 41, 3) := by decide +kernel
theorem dL_trainOn_7 : decode cL_trainOn 7 = .ok (.i2l, 1) := by decide +kernel
theorem dL_trainOn_8 : decode cL_trainOn 8 = .ok (.lastore, 1) := by decide +kernel
theorem dL_trainOn_9 : decode cL_trainOn 9 = .ok (.goto 6, 3) := by decide +kernel
theorem dL_trainOn_12 : decode cL_trainOn 12 = .ok (.astore_n 3, 1) := by decide +kernel
theorem dL_trainOn_13 : decode cL_trainOn 13 = .ok (.iconst 1, 1) := by decide +kernel
theorem dL_trainOn_14 : decode cL_trainOn 14 = .ok (.ireturn, 1) := by decide +kernel
theorem dL_trainOn_15 : decode cL_trainOn 15 = .ok (.iconst 0, 1) := by decide +kernel
theorem dL_trainOn_16 : decode cL_trainOn 16 = .ok (.ireturn, 1) := by decide +kernel
set_option maxRecDepth 20000 in
theorem ggL_run_X5_run : GoodIn wsL_run wsX5_run := goodIn_ca (goodIn_ca (goodIn_r _ [7, 8, 9, 10, 11, 12, 13, 14, 15, 6, 16, 17, 18, 19, 20, 21, 22, 23, 24, 25, 26, 27, 28, 29, 30, 31, 32, 33, 34, 35, 36, 37, 38, 39, 40, 41, 42, 43, 44, 45, 46, 47, 48, 49, 50, 51, 52, 53, 54, 55, 56, 57, 58, 59, 60, 61, 62, 63, 64, 65, 66, 67, 68, 69, 70, 71, 72, 73, 74, 75, 76, 77, 78, 79, 80, 81, 82, 83, 84, 85, 86, 87, 88, 89, 90, 91, 92, 93, 94] (by decide +kernel) (by decide +kernel)) (goodIn_sub (fun _ h => List.mem_cons_of_mem _ (List.mem_append_left _ (List.mem_append_right _ h))) (by decide +kernel))) (goodIn_sub (fun _ h => List.mem_cons_of_mem _ (List.mem_append_right _ h)) (by decide +kernel))
set_option maxRecDepth 20000 in
theorem gL_run_X5_run : GoodIn wsL_run (wsV RL 44 RX5 yX5_run wsX5_run) := goodIn_app (goodIn_of _ (by decide +kernel)) ggL_run_X5_run
theorem dL_run_0 : decode cL_run 0 = .ok (.aload_n 2, 1) := by decide +kernel
theorem dL_run_1 : decode cL_run 1 = .ok (.iconst 0, 1) := by decide +kernel
theorem dL_run_2 : decode cL_run 2 = .ok (.aload_n 0, 1) := by decide +kernel
theorem dL_run_3 : decode cL_run 3 = .ok (.iload_n 1, 1) := by decide +kernel
theorem dL_run_4 : decode cL_run 4 = .ok (.invokevirtual 44, 3) := by decide +kernel
theorem dL_run_7 : decode cL_run 7 = .ok (.i2l, 1) := by decide +kernel
theorem dL_run_8 : decode cL_run 8 = .ok (.lastore, 1) := by decide +kernel
theorem dL_run_9 : decode cL_run 9 = .ok (.goto 9, 3) := by decide +kernel
theorem dL_run_12 : decode cL_run 12 = .ok (.astore_n 3, 1) := by decide +kernel
theorem dL_run_13 : decode cL_run 13 = .ok (.iconst 1, 1) := by decide +kernel
theorem dL_run_14 : decode cL_run 14 = .ok (.ireturn, 1) := by decide +kernel
theorem dL_run_15 : decode cL_run 15 = .ok (.astore_n 3, 1) := by decide +kernel
theorem dL_run_16 : decode cL_run 16 = .ok (.iconst 2, 1) := by decide +kernel
theorem dL_run_17 : decode cL_run 17 = .ok (.ireturn, 1) := by decide +kernel
theorem dL_run_18 : decode cL_run 18 = .ok (.iconst 0, 1) := by decide +kernel
theorem dL_run_19 : decode cL_run 19 = .ok (.ireturn, 1) := by decide +kernel
set_option maxRecDepth 20000 in
theorem ggL_reaches_X5_reaches : GoodIn wsL_reaches wsX5_reaches := goodIn_ca (goodIn_r _ [6, 7, 8, 9, 10, 11, 12, 13, 14, 15, 5, 16, 17, 18, 19, 20, 21, 22, 23, 24, 25, 26, 27, 28, 29, 30, 31, 32, 33, 34, 35, 36, 37, 38, 39, 40, 41, 42, 43, 44, 45, 46, 47, 48, 49, 50, 51, 52, 53, 54, 55, 56, 57, 58, 59, 60, 61, 62, 63, 64, 65, 66, 67, 68, 69, 70, 71, 72, 73, 74, 75, 76, 77, 78, 79, 80, 81, 82, 83, 84, 85, 86, 87, 88, 89, 90, 91, 92, 93, 94, 95, 96] (by decide +kernel) (by decide +kernel)) (goodIn_sub (fun _ h => List.mem_cons_of_mem _ (List.mem_append_right _ h)) (by decide +kernel))
set_option maxRecDepth 20000 in
theorem gL_reaches_X5_reaches : GoodIn wsL_reaches (wsV RL 47 RX5 yX5_reaches wsX5_reaches) := goodIn_app (goodIn_of _ (by decide +kernel)) ggL_reaches_X5_reaches
theorem dL_reaches_0 : decode cL_reaches 0 = .ok (.aload_n 3, 1) := by decide +kernel
theorem dL_reaches_1 : decode cL_reaches 1 = .ok (.iconst 0, 1) := by decide +kernel
theorem dL_reaches_2 : decode cL_reaches 2 = .ok (.aload_n 0, 1) := by decide +kernel
theorem dL_reaches_3 : decode cL_reaches 3 = .ok (.iload_n 1, 1) := by decide +kernel
theorem dL_reaches_4 : decode cL_reaches 4 = .ok (.iload_n 2, 1) := by decide +kernel
theorem dL_reaches_5 : decode cL_reaches 5 = .ok (.invokevirtual 47, 3) := by decide +kernel
theorem dL_reaches_8 : decode cL_reaches 8 = .ok (.i2l, 1) := by decide +kernel
theorem dL_reaches_9 : decode cL_reaches 9 = .ok (.lastore, 1) := by decide +kernel
theorem dL_reaches_10 : decode cL_reaches 10 = .ok (.goto 7, 3) := by decide +kernel
theorem dL_reaches_13 : decode cL_reaches 13 = .ok (.astore 4, 2) := by decide +kernel
theorem dL_reaches_15 : decode cL_reaches 15 = .ok (.iconst 1, 1) := by decide +kernel
theorem dL_reaches_16 : decode cL_reaches 16 = .ok (.ireturn, 1) := by decide +kernel
theorem dL_reaches_17 : decode cL_reaches 17 = .ok (.iconst 0, 1) := by decide +kernel
theorem dL_reaches_18 : decode cL_reaches 18 = .ok (.ireturn, 1) := by decide +kernel
set_option maxRecDepth 20000 in
theorem ggL_book_X5_book : GoodIn wsL_book wsX5_book := goodIn_ca (goodIn_ca (goodIn_ca (goodIn_r _ [8, 9, 10, 11, 12, 13, 14, 15, 16, 7, 17, 18, 19, 20, 21, 22, 23, 24, 25, 26, 27, 28, 29, 30, 31, 32, 33, 34, 35, 36, 37, 38, 39, 40, 41, 42, 43, 44, 45, 46, 47, 48, 49, 50, 51, 52, 53, 54, 55, 56, 57, 58, 59, 60, 61, 62, 63] (by decide +kernel) (by decide +kernel)) (goodIn_sub (fun _ h => List.mem_cons_of_mem _ (List.mem_append_left _ (List.mem_append_left _ (List.mem_append_right _ h)))) (by decide +kernel))) (goodIn_sub (fun _ h => List.mem_cons_of_mem _ (List.mem_append_left _ (List.mem_append_right _ h))) (by decide +kernel))) (goodIn_sub (fun _ h => List.mem_cons_of_mem _ (List.mem_append_right _ h)) (by decide +kernel))
set_option maxRecDepth 20000 in
theorem gL_book_X5_book : GoodIn wsL_book (wsV RL 50 RX5 yX5_book wsX5_book) := goodIn_app (goodIn_of _ (by decide +kernel)) ggL_book_X5_book
theorem dL_book_0 : decode cL_book 0 = .ok (.aload 5, 2) := by decide +kernel
theorem dL_book_2 : decode cL_book 2 = .ok (.iconst 0, 1) := by decide +kernel
theorem dL_book_3 : decode cL_book 3 = .ok (.aload_n 0, 1) := by decide +kernel
theorem dL_book_4 : decode cL_book 4 = .ok (.iload_n 1, 1) := by decide +kernel
theorem dL_book_5 : decode cL_book 5 = .ok (.iload_n 2, 1) := by decide +kernel
theorem dL_book_6 : decode cL_book 6 = .ok (.iload_n 3, 1) := by decide +kernel
theorem dL_book_7 : decode cL_book 7 = .ok (.iload 4, 2) := by decide +kernel
theorem dL_book_9 : decode cL_book 9 = .ok (.invokevirtual 50, 3) := by decide +kernel
theorem dL_book_12 : decode cL_book 12 = .ok (.i2l, 1) := by decide +kernel
theorem dL_book_13 : decode cL_book 13 = .ok (.lastore, 1) := by decide +kernel
theorem dL_book_14 : decode cL_book 14 = .ok (.goto 15, 3) := by decide +kernel
theorem dL_book_17 : decode cL_book 17 = .ok (.astore 6, 2) := by decide +kernel
theorem dL_book_19 : decode cL_book 19 = .ok (.iconst 1, 1) := by decide +kernel
theorem dL_book_20 : decode cL_book 20 = .ok (.ireturn, 1) := by decide +kernel
theorem dL_book_21 : decode cL_book 21 = .ok (.astore 6, 2) := by decide +kernel
theorem dL_book_23 : decode cL_book 23 = .ok (.iconst 2, 1) := by decide +kernel
theorem dL_book_24 : decode cL_book 24 = .ok (.ireturn, 1) := by decide +kernel
theorem dL_book_25 : decode cL_book 25 = .ok (.astore 6, 2) := by decide +kernel
theorem dL_book_27 : decode cL_book 27 = .ok (.iconst 3, 1) := by decide +kernel
theorem dL_book_28 : decode cL_book 28 = .ok (.ireturn, 1) := by decide +kernel
theorem dL_book_29 : decode cL_book 29 = .ok (.iconst 0, 1) := by decide +kernel
theorem dL_book_30 : decode cL_book 30 = .ok (.ireturn, 1) := by decide +kernel
set_option maxRecDepth 20000 in
theorem ggL_canBook_X5_canBook : GoodIn wsL_canBook wsX5_canBook := goodIn_ca (goodIn_ca (goodIn_r _ [7, 8, 9, 10, 11, 6, 12, 13, 14, 15, 16, 17, 18, 19, 20, 21, 22, 23, 24, 25, 26, 27, 28, 29, 30, 31, 32, 33, 34, 35, 36, 37, 38, 39, 40, 41, 42, 43, 44, 45, 46, 47, 48, 49, 50, 51, 52, 53] (by decide +kernel) (by decide +kernel)) (goodIn_sub (fun _ h => List.mem_cons_of_mem _ (List.mem_append_left _ (List.mem_append_right _ h))) (by decide +kernel))) (goodIn_sub (fun _ h => List.mem_cons_of_mem _ (List.mem_append_right _ h)) (by decide +kernel))
set_option maxRecDepth 20000 in
theorem gL_canBook_X5_canBook : GoodIn wsL_canBook (wsV RL 54 RX5 yX5_canBook wsX5_canBook) := goodIn_app (goodIn_of _ (by decide +kernel)) ggL_canBook_X5_canBook
theorem dL_canBook_0 : decode cL_canBook 0 = .ok (.aload 5, 2) := by decide +kernel
theorem dL_canBook_2 : decode cL_canBook 2 = .ok (.iconst 0, 1) := by decide +kernel
theorem dL_canBook_3 : decode cL_canBook 3 = .ok (.aload_n 0, 1) := by decide +kernel
theorem dL_canBook_4 : decode cL_canBook 4 = .ok (.iload_n 1, 1) := by decide +kernel
theorem dL_canBook_5 : decode cL_canBook 5 = .ok (.iload_n 2, 1) := by decide +kernel
theorem dL_canBook_6 : decode cL_canBook 6 = .ok (.iload_n 3, 1) := by decide +kernel
theorem dL_canBook_7 : decode cL_canBook 7 = .ok (.iload 4, 2) := by decide +kernel
theorem dL_canBook_9 : decode cL_canBook 9 = .ok (.invokevirtual 54, 3) := by decide +kernel
theorem dL_canBook_12 : decode cL_canBook 12 = .ok (.ifCond .eq 7, 3) := by decide +kernel
theorem dL_canBook_15 : decode cL_canBook 15 = .ok (.lconst 1, 1) := by decide +kernel
theorem dL_canBook_16 : decode cL_canBook 16 = .ok (.goto 4, 3) := by decide +kernel
theorem dL_canBook_19 : decode cL_canBook 19 = .ok (.lconst 0, 1) := by decide +kernel
theorem dL_canBook_20 : decode cL_canBook 20 = .ok (.lastore, 1) := by decide +kernel
theorem dL_canBook_21 : decode cL_canBook 21 = .ok (.goto 11, 3) := by decide +kernel
theorem dL_canBook_24 : decode cL_canBook 24 = .ok (.astore 6, 2) := by decide +kernel
theorem dL_canBook_26 : decode cL_canBook 26 = .ok (.iconst 1, 1) := by decide +kernel
theorem dL_canBook_27 : decode cL_canBook 27 = .ok (.ireturn, 1) := by decide +kernel
theorem dL_canBook_28 : decode cL_canBook 28 = .ok (.astore 6, 2) := by decide +kernel
theorem dL_canBook_30 : decode cL_canBook 30 = .ok (.iconst 2, 1) := by decide +kernel
theorem dL_canBook_31 : decode cL_canBook 31 = .ok (.ireturn, 1) := by decide +kernel
theorem dL_canBook_32 : decode cL_canBook 32 = .ok (.iconst 0, 1) := by decide +kernel
theorem dL_canBook_33 : decode cL_canBook 33 = .ok (.ireturn, 1) := by decide +kernel
set_option maxRecDepth 20000 in
theorem ggL_canBookByMinutes_X5_canBookByMinutes : GoodIn wsL_canBookByMinutes wsX5_canBookByMinutes := goodIn_ca (goodIn_ca (goodIn_r _ [7, 8, 9, 10, 11, 6, 12, 13, 14, 15, 16, 17, 18, 19, 20, 21, 22, 23, 24, 25, 26, 27, 28, 29, 30, 31, 32, 33, 34, 35, 36, 37, 38, 39, 40, 41, 42, 43, 44, 45, 46, 47, 48, 49, 50, 51, 52, 53, 54, 55, 56, 57] (by decide +kernel) (by decide +kernel)) (goodIn_sub (fun _ h => List.mem_cons_of_mem _ (List.mem_append_left _ (List.mem_append_right _ h))) (by decide +kernel))) (goodIn_sub (fun _ h => List.mem_cons_of_mem _ (List.mem_append_right _ h)) (by decide +kernel))
set_option maxRecDepth 20000 in
theorem gL_canBookByMinutes_X5_canBookByMinutes : GoodIn wsL_canBookByMinutes (wsV RL 58 RX5 yX5_canBookByMinutes wsX5_canBookByMinutes) := goodIn_app (goodIn_of _ (by decide +kernel)) ggL_canBookByMinutes_X5_canBookByMinutes
theorem dL_canBookByMinutes_0 : decode cL_canBookByMinutes 0 = .ok (.aload 5, 2) := by decide +kernel
theorem dL_canBookByMinutes_2 : decode cL_canBookByMinutes 2 = .ok (.iconst 0, 1) := by decide +kernel
theorem dL_canBookByMinutes_3 : decode cL_canBookByMinutes 3 = .ok (.aload_n 0, 1) := by decide +kernel
theorem dL_canBookByMinutes_4 : decode cL_canBookByMinutes 4 = .ok (.iload_n 1, 1) := by decide +kernel
theorem dL_canBookByMinutes_5 : decode cL_canBookByMinutes 5 = .ok (.iload_n 2, 1) := by decide +kernel
theorem dL_canBookByMinutes_6 : decode cL_canBookByMinutes 6 = .ok (.iload_n 3, 1) := by decide +kernel
theorem dL_canBookByMinutes_7 : decode cL_canBookByMinutes 7 = .ok (.iload 4, 2) := by decide +kernel
theorem dL_canBookByMinutes_9 : decode cL_canBookByMinutes 9 = .ok (.invokevirtual 58, 3) := by decide +kernel
theorem dL_canBookByMinutes_12 : decode cL_canBookByMinutes 12 = .ok (.ifCond .eq 7, 3) := by decide +kernel
theorem dL_canBookByMinutes_15 : decode cL_canBookByMinutes 15 = .ok (.lconst 1, 1) := by decide +kernel
theorem dL_canBookByMinutes_16 : decode cL_canBookByMinutes 16 = .ok (.goto 4, 3) := by decide +kernel
theorem dL_canBookByMinutes_19 : decode cL_canBookByMinutes 19 = .ok (.lconst 0, 1) := by decide +kernel
theorem dL_canBookByMinutes_20 : decode cL_canBookByMinutes 20 = .ok (.lastore, 1) := by decide +kernel
theorem dL_canBookByMinutes_21 : decode cL_canBookByMinutes 21 = .ok (.goto 11, 3) := by decide +kernel
theorem dL_canBookByMinutes_24 : decode cL_canBookByMinutes 24 = .ok (.astore 6, 2) := by decide +kernel
theorem dL_canBookByMinutes_26 : decode cL_canBookByMinutes 26 = .ok (.iconst 1, 1) := by decide +kernel
theorem dL_canBookByMinutes_27 : decode cL_canBookByMinutes 27 = .ok (.ireturn, 1) := by decide +kernel
theorem dL_canBookByMinutes_28 : decode cL_canBookByMinutes 28 = .ok (.astore 6, 2) := by decide +kernel
theorem dL_canBookByMinutes_30 : decode cL_canBookByMinutes 30 = .ok (.iconst 2, 1) := by decide +kernel
theorem dL_canBookByMinutes_31 : decode cL_canBookByMinutes 31 = .ok (.ireturn, 1) := by decide +kernel
theorem dL_canBookByMinutes_32 : decode cL_canBookByMinutes 32 = .ok (.iconst 0, 1) := by decide +kernel
theorem dL_canBookByMinutes_33 : decode cL_canBookByMinutes 33 = .ok (.ireturn, 1) := by decide +kernel
set_option maxRecDepth 20000 in
theorem ggL_booking_X5_booking : GoodIn wsL_booking wsX5_booking := goodIn_ca (goodIn_r _ [6, 7, 8, 9, 10, 11, 12, 13, 5, 14, 15, 16, 17, 18, 19, 20, 21, 22, 23, 24, 25, 26, 27, 28, 29, 30, 31] (by decide +kernel) (by decide +kernel)) (goodIn_sub (fun _ h => List.mem_cons_of_mem _ (List.mem_append_right _ h)) (by decide +kernel))
set_option maxRecDepth 20000 in
theorem gL_booking_X5_booking : GoodIn wsL_booking (wsV RL 61 RX5 yX5_booking wsX5_booking) := goodIn_app (goodIn_of _ (by decide +kernel)) ggL_booking_X5_booking
theorem dL_booking_0 : decode cL_booking 0 = .ok (.aload_n 2, 1) := by decide +kernel
theorem dL_booking_1 : decode cL_booking 1 = .ok (.iconst 0, 1) := by decide +kernel
theorem dL_booking_2 : decode cL_booking 2 = .ok (.aload_n 0, 1) := by decide +kernel
theorem dL_booking_3 : decode cL_booking 3 = .ok (.iload_n 1, 1) := by decide +kernel
theorem dL_booking_4 : decode cL_booking 4 = .ok (.invokevirtual 61, 3) := by decide +kernel
theorem dL_booking_7 : decode cL_booking 7 = .ok (.i2l, 1) := by decide +kernel
theorem dL_booking_8 : decode cL_booking 8 = .ok (.lastore, 1) := by decide +kernel
theorem dL_booking_9 : decode cL_booking 9 = .ok (.goto 6, 3) := by decide +kernel
theorem dL_booking_12 : decode cL_booking 12 = .ok (.astore_n 3, 1) := by decide +kernel
theorem dL_booking_13 : decode cL_booking 13 = .ok (.iconst 1, 1) := by decide +kernel
theorem dL_booking_14 : decode cL_booking 14 = .ok (.ireturn, 1) := by decide +kernel
theorem dL_booking_15 : decode cL_booking 15 = .ok (.iconst 0, 1) := by decide +kernel
theorem dL_booking_16 : decode cL_booking 16 = .ok (.ireturn, 1) := by decide +kernel
set_option maxRecDepth 20000 in
theorem ggL_late_X5_late : GoodIn wsL_late wsX5_late := goodIn_ca (goodIn_r _ [6, 7, 8, 9, 10, 11, 5, 12, 13, 14, 15, 16, 17, 18, 19, 20, 21, 22, 23, 24, 25, 26, 27, 28, 29] (by decide +kernel) (by decide +kernel)) (goodIn_sub (fun _ h => List.mem_cons_of_mem _ (List.mem_append_right _ h)) (by decide +kernel))
set_option maxRecDepth 20000 in
theorem gL_late_X5_late : GoodIn wsL_late (wsV RL 64 RX5 yX5_late wsX5_late) := goodIn_app (goodIn_of _ (by decide +kernel)) ggL_late_X5_late
theorem dL_late_0 : decode cL_late 0 = .ok (.aload_n 2, 1) := by decide +kernel
theorem dL_late_1 : decode cL_late 1 = .ok (.iconst 0, 1) := by decide +kernel
theorem dL_late_2 : decode cL_late 2 = .ok (.aload_n 0, 1) := by decide +kernel
theorem dL_late_3 : decode cL_late 3 = .ok (.iload_n 1, 1) := by decide +kernel
theorem dL_late_4 : decode cL_late 4 = .ok (.invokevirtual 64, 3) := by decide +kernel
theorem dL_late_7 : decode cL_late 7 = .ok (.i2l, 1) := by decide +kernel
theorem dL_late_8 : decode cL_late 8 = .ok (.lastore, 1) := by decide +kernel
theorem dL_late_9 : decode cL_late 9 = .ok (.goto 6, 3) := by decide +kernel
theorem dL_late_12 : decode cL_late 12 = .ok (.astore_n 3, 1) := by decide +kernel
theorem dL_late_13 : decode cL_late 13 = .ok (.iconst 1, 1) := by decide +kernel
theorem dL_late_14 : decode cL_late 14 = .ok (.ireturn, 1) := by decide +kernel
theorem dL_late_15 : decode cL_late 15 = .ok (.iconst 0, 1) := by decide +kernel
theorem dL_late_16 : decode cL_late 16 = .ok (.ireturn, 1) := by decide +kernel
set_option maxRecDepth 20000 in
theorem ggL_addWaggon_X5_addWaggon : GoodIn wsL_addWaggon wsX5_addWaggon := goodIn_ca (goodIn_ca (goodIn_ca (goodIn_r _ [8, 9, 10, 11, 12, 13, 14, 15, 16, 7, 17, 18, 19, 20, 21, 22, 23, 24, 25, 26, 27, 28, 29, 30, 31, 32, 33, 34, 35, 36, 37, 38, 39, 40, 41, 42, 43, 44, 45, 46, 47, 48, 49, 50, 51, 52, 53, 54, 55] (by decide +kernel) (by decide +kernel)) (goodIn_sub (fun _ h => List.mem_cons_of_mem _ (List.mem_append_left _ (List.mem_append_left _ (List.mem_append_right _ h)))) (by decide +kernel))) (goodIn_sub (fun _ h => List.mem_cons_of_mem _ (List.mem_append_left _ (List.mem_append_right _ h))) (by decide +kernel))) (goodIn_sub (fun _ h => List.mem_cons_of_mem _ (List.mem_append_right _ h)) (by decide +kernel))
set_option maxRecDepth 20000 in
theorem gL_addWaggon_X5_addWaggon : GoodIn wsL_addWaggon (wsV RL 67 RX5 yX5_addWaggon wsX5_addWaggon) := goodIn_app (goodIn_of _ (by decide +kernel)) ggL_addWaggon_X5_addWaggon
theorem dL_addWaggon_0 : decode cL_addWaggon 0 = .ok (.aload_n 3, 1) := by decide +kernel
theorem dL_addWaggon_1 : decode cL_addWaggon 1 = .ok (.iconst 0, 1) := by decide +kernel
theorem dL_addWaggon_2 : decode cL_addWaggon 2 = .ok (.aload_n 0, 1) := by decide +kernel
theorem dL_addWaggon_3 : decode cL_addWaggon 3 = .ok (.iload_n 1, 1) := by decide +kernel
theorem dL_addWaggon_4 : decode cL_addWaggon 4 = .ok (.iload_n 2, 1) := by decide +kernel
theorem dL_addWaggon_5 : decode cL_addWaggon 5 = .ok (.invokevirtual 67, 3) := by decide +kernel
theorem dL_addWaggon_8 : decode cL_addWaggon 8 = .ok (.i2l, 1) := by decide +kernel
theorem dL_addWaggon_9 : decode cL_addWaggon 9 = .ok (.lastore, 1) := by decide +kernel
theorem dL_addWaggon_10 : decode cL_addWaggon 10 = .ok (.goto 15, 3) := by decide +kernel
theorem dL_addWaggon_13 : decode cL_addWaggon 13 = .ok (.astore 4, 2) := by decide +kernel
theorem dL_addWaggon_15 : decode cL_addWaggon 15 = .ok (.iconst 1, 1) := by decide +kernel
theorem dL_addWaggon_16 : decode cL_addWaggon 16 = .ok (.ireturn, 1) := by decide +kernel
theorem dL_addWaggon_17 : decode cL_addWaggon 17 = .ok (.astore 4, 2) := by decide +kernel
theorem dL_addWaggon_19 : decode cL_addWaggon 19 = .ok (.iconst 2, 1) := by decide +kernel
theorem dL_addWaggon_20 : decode cL_addWaggon 20 = .ok (.ireturn, 1) := by decide +kernel
theorem dL_addWaggon_21 : decode cL_addWaggon 21 = .ok (.astore 4, 2) := by decide +kernel
theorem dL_addWaggon_23 : decode cL_addWaggon 23 = .ok (.iconst 3, 1) := by decide +kernel
theorem dL_addWaggon_24 : decode cL_addWaggon 24 = .ok (.ireturn, 1) := by decide +kernel
theorem dL_addWaggon_25 : decode cL_addWaggon 25 = .ok (.iconst 0, 1) := by decide +kernel
theorem dL_addWaggon_26 : decode cL_addWaggon 26 = .ok (.ireturn, 1) := by decide +kernel
set_option maxRecDepth 20000 in
theorem ggL_offer_X5_offer : GoodIn wsL_offer wsX5_offer := goodIn_ca (goodIn_ca (goodIn_r _ [7, 8, 9, 10, 11, 12, 13, 14, 15, 16, 6, 17, 18, 19, 20, 21, 22, 23, 24, 25, 26, 27, 28, 29, 30, 31, 32, 33, 34, 35, 36, 37, 38, 39, 40, 41, 42, 43] (by decide +kernel) (by decide +kernel)) (goodIn_sub (fun _ h => List.mem_cons_of_mem _ (List.mem_append_left _ (List.mem_append_right _ h))) (by decide +kernel))) (goodIn_sub (fun _ h => List.mem_cons_of_mem _ (List.mem_append_right _ h)) (by decide +kernel))
set_option maxRecDepth 20000 in
theorem gL_offer_X5_offer : GoodIn wsL_offer (wsV RL 70 RX5 yX5_offer wsX5_offer) := goodIn_app (goodIn_of _ (by decide +kernel)) ggL_offer_X5_offer
theorem dL_offer_0 : decode cL_offer 0 = .ok (.aload_n 0, 1) := by decide +kernel
theorem dL_offer_1 : decode cL_offer 1 = .ok (.iload_n 1, 1) := by decide +kernel
theorem dL_offer_2 : decode cL_offer 2 = .ok (.iload_n 2, 1) := by decide +kernel
theorem dL_offer_3 : decode cL_offer 3 = .ok (.iload_n 3, 1) := by decide +kernel
theorem dL_offer_4 : decode cL_offer 4 = .ok (.iload 4, 2) := by decide +kernel
theorem dL_offer_6 : decode cL_offer 6 = .ok (.invokevirtual 70, 3) := by decide +kernel
theorem dL_offer_9 : decode cL_offer 9 = .ok (.goto 11, 3) := by decide +kernel
theorem dL_offer_12 : decode cL_offer 12 = .ok (.astore 5, 2) := by decide +kernel
theorem dL_offer_14 : decode cL_offer 14 = .ok (.iconst 1, 1) := by decide +kernel
theorem dL_offer_15 : decode cL_offer 15 = .ok (.ireturn, 1) := by decide +kernel
theorem dL_offer_16 : decode cL_offer 16 = .ok (.astore 5, 2) := by decide +kernel
theorem dL_offer_18 : decode cL_offer 18 = .ok (.iconst 2, 1) := by decide +kernel
theorem dL_offer_19 : decode cL_offer 19 = .ok (.ireturn, 1) := by decide +kernel
theorem dL_offer_20 : decode cL_offer 20 = .ok (.iconst 0, 1) := by decide +kernel
theorem dL_offer_21 : decode cL_offer 21 = .ok (.ireturn, 1) := by decide +kernel
set_option maxRecDepth 20000 in
theorem ggL_couple_X5_couple : GoodIn wsL_couple wsX5_couple := goodIn_ca (goodIn_ca (goodIn_r _ [7, 8, 9, 10, 11, 12, 13, 14, 6, 15, 16, 17, 18, 19, 20, 21, 22, 23, 24, 25, 26, 27, 28, 29, 30, 31, 32, 33, 34, 35, 36, 37, 38, 39, 40, 41, 42, 43, 44, 45, 46, 47, 48, 49, 50, 51, 52, 53, 54, 55, 56, 57, 58, 59, 60, 61, 62, 63, 64, 65, 66, 67, 68, 69, 70, 71, 72, 73, 74, 75] (by decide +kernel) (by decide +kernel)) (goodIn_sub (fun _ h => List.mem_cons_of_mem _ (List.mem_append_left _ (List.mem_append_right _ h))) (by decide +kernel))) (goodIn_sub (fun _ h => List.mem_cons_of_mem _ (List.mem_append_right _ h)) (by decide +kernel))
set_option maxRecDepth 20000 in
theorem gL_couple_X5_couple : GoodIn wsL_couple (wsV RL 74 RX5 yX5_couple wsX5_couple) := goodIn_app (goodIn_of _ (by decide +kernel)) ggL_couple_X5_couple
theorem dL_couple_0 : decode cL_couple 0 = .ok (.aload_n 2, 1) := by decide +kernel
theorem dL_couple_1 : decode cL_couple 1 = .ok (.iconst 0, 1) := by decide +kernel
theorem dL_couple_2 : decode cL_couple 2 = .ok (.aload_n 0, 1) := by decide +kernel
theorem dL_couple_3 : decode cL_couple 3 = .ok (.iload_n 1, 1) := by decide +kernel
theorem dL_couple_4 : decode cL_couple 4 = .ok (.invokevirtual 74, 3) := by decide +kernel
theorem dL_couple_7 : decode cL_couple 7 = .ok (.i2l, 1) := by decide +kernel
theorem dL_couple_8 : decode cL_couple 8 = .ok (.lastore, 1) := by decide +kernel
theorem dL_couple_9 : decode cL_couple 9 = .ok (.goto 9, 3) := by decide +kernel
theorem dL_couple_12 : decode cL_couple 12 = .ok (.astore_n 3, 1) := by decide +kernel
theorem dL_couple_13 : decode cL_couple 13 = .ok (.iconst 1, 1) := by decide +kernel
theorem dL_couple_14 : decode cL_couple 14 = .ok (.ireturn, 1) := by decide +kernel
theorem dL_couple_15 : decode cL_couple 15 = .ok (.astore_n 3, 1) := by decide +kernel
theorem dL_couple_16 : decode cL_couple 16 = .ok (.iconst 2, 1) := by decide +kernel
theorem dL_couple_17 : decode cL_couple 17 = .ok (.ireturn, 1) := by decide +kernel
theorem dL_couple_18 : decode cL_couple 18 = .ok (.iconst 0, 1) := by decide +kernel
theorem dL_couple_19 : decode cL_couple 19 = .ok (.ireturn, 1) := by decide +kernel
set_option maxRecDepth 20000 in
theorem ggL_leave_X5_leave : GoodIn wsL_leave wsX5_leave := goodIn_ca (goodIn_ca (goodIn_r _ [7, 8, 9, 10, 11, 12, 13, 14, 15, 16, 6, 17, 18, 19, 20, 21, 22, 23, 24, 25, 26, 27, 28, 29, 30, 31, 32, 33, 34, 35, 36, 37, 38, 39, 40, 41, 42, 43, 44, 45, 46, 47, 48, 49, 50, 51, 52, 53, 54, 55, 56, 57, 58, 59, 60, 61, 62, 63, 64, 65, 66, 67, 68, 69, 70, 71, 72, 73, 74, 75, 76, 77, 78, 79, 80, 81, 82, 83, 84, 85, 86, 87, 88, 89, 90, 91, 92, 93, 94, 95] (by decide +kernel) (by decide +kernel)) (goodIn_sub (fun _ h => List.mem_cons_of_mem _ (List.mem_append_left _ (List.mem_append_right _ h))) (by decide +kernel))) (goodIn_sub (fun _ h => List.mem_cons_of_mem _ (List.mem_append_right _ h)) (by decide +kernel))
set_option maxRecDepth 20000 in
theorem gL_leave_X5_leave : GoodIn wsL_leave (wsV RL 77 RX5 yX5_leave wsX5_leave) := goodIn_app (goodIn_of _ (by decide +kernel)) ggL_leave_X5_leave
theorem dL_leave_0 : decode cL_leave 0 = .ok (.aload_n 2, 1) := by decide +kernel
theorem dL_leave_1 : decode cL_leave 1 = .ok (.iconst 0, 1) := by decide +kernel
theorem dL_leave_2 : decode cL_leave 2 = .ok (.aload_n 0, 1) := by decide +kernel
theorem dL_leave_3 : decode cL_leave 3 = .ok (.iload_n 1, 1) := by decide +kernel
theorem dL_leave_4 : decode cL_leave 4 = .ok (.invokevirtual 77, 3) := by decide +kernel
theorem dL_leave_7 : decode cL_leave 7 = .ok (.i2l, 1) := by decide +kernel
theorem dL_leave_8 : decode cL_leave 8 = .ok (.lastore, 1) := by decide +kernel
theorem dL_leave_9 : decode cL_leave 9 = .ok (.goto 9, 3) := by decide +kernel
theorem dL_leave_12 : decode cL_leave 12 = .ok (.astore_n 3, 1) := by decide +kernel
theorem dL_leave_13 : decode cL_leave 13 = .ok (.iconst 1, 1) := by decide +kernel
theorem dL_leave_14 : decode cL_leave 14 = .ok (.ireturn, 1) := by decide +kernel
theorem dL_leave_15 : decode cL_leave 15 = .ok (.astore_n 3, 1) := by decide +kernel
theorem dL_leave_16 : decode cL_leave 16 = .ok (.iconst 2, 1) := by decide +kernel
theorem dL_leave_17 : decode cL_leave 17 = .ok (.ireturn, 1) := by decide +kernel
theorem dL_leave_18 : decode cL_leave 18 = .ok (.iconst 0, 1) := by decide +kernel
theorem dL_leave_19 : decode cL_leave 19 = .ok (.ireturn, 1) := by decide +kernel
set_option maxRecDepth 20000 in
theorem ggL_waggonAt_X5_waggonAt : GoodIn wsL_waggonAt wsX5_waggonAt := goodIn_ca (goodIn_r _ [6, 7, 8, 9, 10, 11, 12, 13, 5, 14, 15, 16, 17, 18, 19, 20, 21, 22, 23, 24, 25, 26, 27, 28, 29, 30, 31, 32, 33, 34, 35, 36, 37, 38, 39, 40, 41, 42, 43, 44, 45, 46, 47, 48] (by decide +kernel) (by decide +kernel)) (goodIn_sub (fun _ h => List.mem_cons_of_mem _ (List.mem_append_right _ h)) (by decide +kernel))
set_option maxRecDepth 20000 in
theorem gL_waggonAt_X5_waggonAt : GoodIn wsL_waggonAt (wsV RL 80 RX5 yX5_waggonAt wsX5_waggonAt) := goodIn_app (goodIn_of _ (by decide +kernel)) ggL_waggonAt_X5_waggonAt
theorem dL_waggonAt_0 : decode cL_waggonAt 0 = .ok (.aload_n 3, 1) := by decide +kernel
theorem dL_waggonAt_1 : decode cL_waggonAt 1 = .ok (.iconst 0, 1) := by decide +kernel
theorem dL_waggonAt_2 : decode cL_waggonAt 2 = .ok (.aload_n 0, 1) := by decide +kernel
theorem dL_waggonAt_3 : decode cL_waggonAt 3 = .ok (.iload_n 1, 1) := by decide +kernel
theorem dL_waggonAt_4 : decode cL_waggonAt 4 = .ok (.iload_n 2, 1) := by decide +kernel
theorem dL_waggonAt_5 : decode cL_waggonAt 5 = .ok (.invokevirtual 80, 3) := by decide +kernel
theorem dL_waggonAt_8 : decode cL_waggonAt 8 = .ok (.i2l, 1) := by decide +kernel
theorem dL_waggonAt_9 : decode cL_waggonAt 9 = .ok (.lastore, 1) := by decide +kernel
theorem dL_waggonAt_10 : decode cL_waggonAt 10 = .ok (.goto 7, 3) := by decide +kernel
theorem dL_waggonAt_13 : decode cL_waggonAt 13 = .ok (.astore 4, 2) := by decide +kernel
theorem dL_waggonAt_15 : decode cL_waggonAt 15 = .ok (.iconst 1, 1) := by decide +kernel
theorem dL_waggonAt_16 : decode cL_waggonAt 16 = .ok (.ireturn, 1) := by decide +kernel
theorem dL_waggonAt_17 : decode cL_waggonAt 17 = .ok (.iconst 0, 1) := by decide +kernel
theorem dL_waggonAt_18 : decode cL_waggonAt 18 = .ok (.ireturn, 1) := by decide +kernel
