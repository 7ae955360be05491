set_option maxRecDepth 20000 in
theorem ggL_blockedBy_X2_blockedBy : GoodIn wsL_blockedBy wsX2_blockedBy := goodIn_ca (goodIn_r _ [6, 7, 8, 9, 5, 10, 11, 12, 13, 14, 15, 16, 17, 18, 19, 20, 21, 22, 23, 24, 25, 26, 27, 28, 29, 30, 31, 32, 33, 34, 35, 36, 37, 38, 39, 40, 41, 42, 43, 44, 45, 46, 47, 48, 49, 50, 51, 52, 53, 54, 55, 56, 57] (by decide +kernel) (by decide +kernel)) (goodIn_sub (fun _ h => List.mem_cons_of_mem _ (List.mem_append_right _ h)) (by decide +kernel))
set_option maxRecDepth 20000 in
theorem gL_blockedBy_X2_blockedBy : GoodIn wsL_blockedBy (wsV RL 55 RX2 yX2_blockedBy wsX2_blockedBy) := goodIn_app (goodIn_of _ (by decide +kernel)) ggL_blockedBy_X2_blockedBy
theorem dL_blockedBy_0 : decode cL_blockedBy 0 = .ok (.aload_n 2, 1) := by decide +kernel
theorem dL_blockedBy_1 : decode cL_blockedBy 1 = .ok (.iconst 0, 1) := by decide +kernel
theorem dL_blockedBy_2 : decode cL_blockedBy 2 = .ok (.aload_n 0, 1) := by decide +kernel
theorem dL_blockedBy_3 : decode cL_blockedBy 3 = .ok (.iload_n 1, 1) := by decide +kernel
theorem dL_blockedBy_4 : decode cL_blockedBy 4 = .ok (.invokevirtual 55, 3) := by decide +kernel
theorem dL_blockedBy_7 : decode cL_blockedBy 7 = .ok (.i2l, 1) := by decide +kernel
theorem dL_blockedBy_8 : decode cL_blockedBy 8 = .ok (.lastore, 1) := by decide +kernel
theorem dL_blockedBy_9 : decode cL_blockedBy 9 = .ok (.goto 6, 3) := by decide +kernel
theorem dL_blockedBy_12 : decode cL_blockedBy 12 = .ok (.astore_n 3, 1) := by decide +kernel
theorem dL_blockedBy_13 : decode cL_blockedBy 13 = .ok (.iconst 1, 1) := by decide +kernel
theorem dL_blockedBy_14 : decode cL_blockedBy 14 = .ok (.ireturn, 1) := by decide +kernel
theorem dL_blockedBy_15 : decode cL_blockedBy 15 = .ok (.iconst 0, 1) := by decide +kernel
theorem dL_blockedBy_16 : decode cL_blockedBy 16 = .ok (.ireturn, 1) := by decide +kernel
set_option maxRecDepth 20000 in
theorem ggL_interrupt_X2_interrupt : GoodIn wsL_interrupt wsX2_interrupt := goodIn_ca (goodIn_ca (goodIn_r _ [7, 8, 9, 10, 11, 12, 6, 13, 14, 15, 16, 17, 18, 19, 20, 21, 22, 23, 24, 25, 26, 27, 28, 29, 30, 31, 32, 33, 34, 35, 36, 37, 38, 39, 40, 41, 42, 43, 44, 45, 46, 47, 48, 49, 50, 51, 52, 53, 54, 55, 56, 57, 58, 59, 60, 61, 62, 63, 64, 65, 66, 67, 68, 69, 70, 71, 72, 73] (by decide +kernel) (by decide +kernel)) (goodIn_sub (fun _ h => List.mem_cons_of_mem _ (List.mem_append_left _ (List.mem_append_right _ h))) (by decide +kernel))) (goodIn_sub (fun _ h => List.mem_cons_of_mem _ (List.mem_append_right _ h)) (by decide +kernel))
set_option maxRecDepth 20000 in
theorem gL_interrupt_X2_interrupt : GoodIn wsL_interrupt (wsV RL 58 RX2 yX2_interrupt wsX2_interrupt) := goodIn_app (goodIn_of _ (by decide +kernel)) ggL_interrupt_X2_interrupt
theorem dL_interrupt_0 : decode cL_interrupt 0 = .ok (.aload_n 0, 1) := by decide +kernel
theorem dL_interrupt_1 : decode cL_interrupt 1 = .ok (.iload_n 1, 1) := by decide +kernel
theorem dL_interrupt_2 : decode cL_interrupt 2 = .ok (.invokevirtual 58, 3) := by decide +kernel
theorem dL_interrupt_5 : decode cL_interrupt 5 = .ok (.goto 9, 3) := by decide +kernel
theorem dL_interrupt_8 : decode cL_interrupt 8 = .ok (.astore_n 2, 1) := by decide +kernel
theorem dL_interrupt_9 : decode cL_interrupt 9 = .ok (.iconst 1, 1) := by decide +kernel
theorem dL_interrupt_10 : decode cL_interrupt 10 = .ok (.ireturn, 1) := by decide +kernel
theorem dL_interrupt_11 : decode cL_interrupt 11 = .ok (.astore_n 2, 1) := by decide +kernel
theorem dL_interrupt_12 : decode cL_interrupt 12 = .ok (.iconst 2, 1) := by decide +kernel
theorem dL_interrupt_13 : decode cL_interrupt 13 = .ok (.ireturn, 1) := by decide +kernel
theorem dL_interrupt_14 : decode cL_interrupt 14 = .ok (.iconst 0, 1) := by decide +kernel
theorem dL_interrupt_15 : decode cL_interrupt 15 = .ok (.ireturn, 1) := by decide +kernel
set_option maxRecDepth 20000 in
theorem ggL_exit_X2_exit : GoodIn wsL_exit wsX2_exit := goodIn_ca (goodIn_ca (goodIn_r _ [7, 8, 9, 10, 11, 12, 13, 6, 14, 15, 16, 17, 18, 19, 20, 21, 22, 23, 24, 25, 26, 27, 28, 29, 30, 31, 32, 33, 34, 35, 36, 37, 38, 39, 40, 41, 42, 43, 44, 45, 46, 47, 48, 49, 50, 51, 52, 53, 54, 55, 56, 57, 58, 59, 60, 61, 62, 63, 64, 65, 66, 67, 68, 69, 70, 71, 72, 73, 74, 75, 76, 77, 78, 79, 80, 81, 82, 83, 84, 85, 86, 87, 88, 89, 90, 91, 92, 93, 94, 95, 96, 97, 98, 99, 100, 101, 102, 103, 104, 105, 106, 107, 108, 109, 110, 111, 112, 113, 114] (by decide +kernel) (by decide +kernel)) (goodIn_sub (fun _ h => List.mem_cons_of_mem _ (List.mem_append_left _ (List.mem_append_right _ h))) (by decide +kernel))) (goodIn_sub (fun _ h => List.mem_cons_of_mem _ (List.mem_append_right _ h)) (by decide +kernel))
set_option maxRecDepth 20000 in
theorem gL_exit_X2_exit : GoodIn wsL_exit (wsV RL 62 RX2 yX2_exit wsX2_exit) := goodIn_app (goodIn_of _ (by decide +kernel)) ggL_exit_X2_exit
theorem dL_exit_0 : decode cL_exit 0 = .ok (.aload_n 2, 1) := by decide +kernel
theorem dL_exit_1 : decode cL_exit 1 = .ok (.iconst 0, 1) := by decide +kernel
theorem dL_exit_2 : decode cL_exit 2 = .ok (.aload_n 0, 1) := by decide +kernel
theorem dL_exit_3 : decode cL_exit 3 = .ok (.iload_n 1, 1) := by decide +kernel
theorem dL_exit_4 : decode cL_exit 4 = .ok (.invokevirtual 62, 3) := by decide +kernel
theorem dL_exit_7 : decode cL_exit 7 = .ok (.i2l, 1) := by decide +kernel
theorem dL_exit_8 : decode cL_exit 8 = .ok (.lastore, 1) := by decide +kernel
theorem dL_exit_9 : decode cL_exit 9 = .ok (.goto 9, 3) := by decide +kernel
theorem dL_exit_12 : decode cL_exit 12 = .ok (.astore_n 3, 1) := by decide +kernel
theorem dL_exit_13 : decode cL_exit 13 = .ok (.iconst 1, 1) := by decide +kernel
theorem dL_exit_14 : decode cL_exit 14 = .ok (.ireturn, 1) := by decide +kernel
theorem dL_exit_15 : decode cL_exit 15 = .ok (.astore_n 3, 1) := by decide +kernel
theorem dL_exit_16 : decode cL_exit 16 = .ok (.iconst 2, 1) := by decide +kernel
theorem dL_exit_17 : decode cL_exit 17 = .ok (.ireturn, 1) := by decide +kernel
theorem dL_exit_18 : decode cL_exit 18 = .ok (.iconst 0, 1) := by decide +kernel
theorem dL_exit_19 : decode cL_exit 19 = .ok (.ireturn, 1) := by decide +kernel
set_option maxRecDepth 20000 in
theorem ggL_start_X2_start : GoodIn wsL_start wsX2_start := goodIn_ca (goodIn_ca (goodIn_r _ [7, 8, 9, 10, 11, 12, 13, 14, 15, 16, 6, 17, 18, 19, 20, 21, 22, 23, 24, 25, 26, 27, 28, 29, 30, 31, 32, 33, 34, 35, 36, 37] (by decide +kernel) (by decide +kernel)) (goodIn_sub (fun _ h => List.mem_cons_of_mem _ (List.mem_append_left _ (List.mem_append_right _ h))) (by decide +kernel))) (goodIn_sub (fun _ h => List.mem_cons_of_mem _ (List.mem_append_right _ h)) (by decide +kernel))
set_option maxRecDepth 20000 in
theorem gL_start_X2_start : GoodIn wsL_start (wsV RL 65 RX2 yX2_start wsX2_start) := goodIn_app (goodIn_of _ (by decide +kernel)) ggL_start_X2_start
theorem dL_start_0 : decode cL_start 0 = .ok (.aload_n 0, 1) := by decide +kernel
theorem dL_start_1 : decode cL_start 1 = .ok (.iload_n 1, 1) := by decide +kernel
theorem dL_start_2 : decode cL_start 2 = .ok (.invokevirtual 65, 3) := by decide +kernel
theorem dL_start_5 : decode cL_start 5 = .ok (.goto 9, 3) := by decide +kernel
theorem dL_start_8 : decode cL_start 8 = .ok (.astore_n 2, 1) := by decide +kernel
theorem dL_start_9 : decode cL_start 9 = .ok (.iconst 1, 1) := by decide +kernel
theorem dL_start_10 : decode cL_start 10 = .ok (.ireturn, 1) := by decide +kernel
theorem dL_start_11 : decode cL_start 11 = .ok (.astore_n 2, 1) := by decide +kernel
theorem dL_start_12 : decode cL_start 12 = .ok (.iconst 2, 1) := by decide +kernel
theorem dL_start_13 : decode cL_start 13 = .ok (.ireturn, 1) := by decide +kernel
theorem dL_start_14 : decode cL_start 14 = .ok (.iconst 0, 1) := by decide +kernel
theorem dL_start_15 : decode cL_start 15 = .ok (.ireturn, 1) := by decide +kernel
set_option maxRecDepth 20000 in
theorem ggL_setPriority_X2_setPriority : GoodIn wsL_setPriority wsX2_setPriority := goodIn_ca (goodIn_ca (goodIn_ca (goodIn_r _ [8, 9, 10, 11, 12, 13, 7, 14, 15, 16, 17, 18, 19, 20, 21, 22, 23, 24, 25, 26, 27, 28, 29, 30, 31, 32, 33, 34, 35, 36, 37, 38, 39, 40, 41, 42, 43, 44, 45, 46, 47, 48, 49, 50, 51, 52, 53, 54, 55, 56, 57] (by decide +kernel) (by decide +kernel)) (goodIn_sub (fun _ h => List.mem_cons_of_mem _ (List.mem_append_left _ (List.mem_append_left _ (List.mem_append_right _ h)))) (by decide +kernel))) (goodIn_sub (fun _ h => List.mem_cons_of_mem _ (List.mem_append_left _ (List.mem_append_right _ h))) (by decide +kernel))) (goodIn_sub (fun _ h => List.mem_cons_of_mem _ (List.mem_append_right _ h)) (by decide +kernel))
set_option maxRecDepth 20000 in
theorem gL_setPriority_X2_setPriority : GoodIn wsL_setPriority (wsV RL 68 RX2 yX2_setPriority wsX2_setPriority) := goodIn_app (goodIn_of _ (by decide +kernel)) ggL_setPriority_X2_setPriority
theorem dL_setPriority_0 : decode cL_setPriority 0 = .ok (.aload_n 3, 1) := by decide +kernel
theorem dL_setPriority_1 : decode cL_setPriority 1 = .ok (.iconst 0, 1) := by decide +kernel
theorem dL_setPriority_2 : decode cL_setPriority 2 = .ok (.aload_n 0, 1) := by decide +kernel
theorem dL_setPriority_3 : decode cL_setPriority 3 = .ok (.iload_n 1, 1) := by decide +kernel
theorem dL_setPriority_4 : decode cL_setPriority 4 = .ok (.iload_n 2, 1) := by decide +kernel
theorem dL_setPriority_5 : decode cL_setPriority 5 = .ok (.invokevirtual 68, 3) := by decide +kernel
theorem dL_setPriority_8 : decode cL_setPriority 8 = .ok (.i2l, 1) := by decide +kernel
theorem dL_setPriority_9 : decode cL_setPriority 9 = .ok (.lastore, 1) := by decide +kernel
theorem dL_setPriority_10 : decode cL_setPriority 10 = .ok (.goto 15, 3) := by decide +kernel
theorem dL_setPriority_13 : decode cL_setPriority 13 = .ok (.astore 4, 2) := by decide +kernel
theorem dL_setPriority_15 : decode cL_setPriority 15 = .ok (.iconst 1, 1) := by decide +kernel
theorem dL_setPriority_16 : decode cL_setPriority 16 = .ok (.ireturn, 1) := by decide +kernel
theorem dL_setPriority_17 : decode cL_setPriority 17 = .ok (.astore 4, 2) := by decide +kernel
theorem dL_setPriority_19 : decode cL_setPriority 19 = .ok (.iconst 2, 1) := by decide +kernel
theorem dL_setPriority_20 : decode cL_setPriority 20 = .ok (.ireturn, 1) := by decide +kernel
theorem dL_setPriority_21 : decode cL_setPriority 21 = .ok (.astore 4, 2) := by decide +kernel
theorem dL_setPriority_23 : decode cL_setPriority 23 = .ok (.iconst 3, 1) := by decide +kernel
theorem dL_setPriority_24 : decode cL_setPriority 24 = .ok (.ireturn, 1) := by decide +kernel
theorem dL_setPriority_25 : decode cL_setPriority 25 = .ok (.iconst 0, 1) := by decide +kernel
theorem dL_setPriority_26 : decode cL_setPriority 26 = .ok (.ireturn, 1) := by decide +kernel
set_option maxRecDepth 20000 in
theorem ggL_tick_X2_tick : GoodIn wsL_tick wsX2_tick := goodIn_ca (goodIn_r _ [6, 7, 8, 9, 10, 5, 11, 12, 13, 14, 15, 16, 17, 18, 19, 20, 21, 22, 23, 24, 25, 26, 27, 28, 29, 30, 31, 32, 33, 34, 35, 36, 37, 38, 39, 40, 41, 42, 43, 44, 45, 46, 47, 48, 49, 50, 51, 52, 53, 54, 55, 56, 57, 58, 59, 60, 61, 62, 63, 64, 65, 66, 67, 68, 69, 70, 71, 72, 73, 74, 75] (by decide +kernel) (by decide +kernel)) (goodIn_sub (fun _ h => List.mem_cons_of_mem _ (List.mem_append_right _ h)) (by decide +kernel))
set_option maxRecDepth 20000 in
theorem gL_tick_X2_tick : GoodIn wsL_tick (wsV RL 71 RX2 yX2_tick wsX2_tick) := goodIn_app (goodIn_of _ (by decide +kernel)) ggL_tick_X2_tick
theorem dL_tick_0 : decode cL_tick 0 = .ok (.aload_n 2, 1) := by decide +kernel
theorem dL_tick_1 : decode cL_tick 1 = .ok (.iconst 0, 1) := by decide +kernel
theorem dL_tick_2 : decode cL_tick 2 = .ok (.aload_n 0, 1) := by decide +kernel
theorem dL_tick_3 : decode cL_tick 3 = .ok (.iload_n 1, 1) := by decide +kernel
theorem dL_tick_4 : decode cL_tick 4 = .ok (.invokevirtual 71, 3) := by decide +kernel
theorem dL_tick_7 : decode cL_tick 7 = .ok (.i2l, 1) := by decide +kernel
theorem dL_tick_8 : decode cL_tick 8 = .ok (.lastore, 1) := by decide +kernel
theorem dL_tick_9 : decode cL_tick 9 = .ok (.goto 6, 3) := by decide +kernel
theorem dL_tick_12 : decode cL_tick 12 = .ok (.astore_n 3, 1) := by decide +kernel
theorem dL_tick_13 : decode cL_tick 13 = .ok (.iconst 1, 1) := by decide +kernel
theorem dL_tick_14 : decode cL_tick 14 = .ok (.ireturn, 1) := by decide +kernel
theorem dL_tick_15 : decode cL_tick 15 = .ok (.iconst 0, 1) := by decide +kernel
theorem dL_tick_16 : decode cL_tick 16 = .ok (.ireturn, 1) := by decide +kernel
set_option maxRecDepth 20000 in
theorem ggL_stateOf_X2_stateOf : GoodIn wsL_stateOf wsX2_stateOf := goodIn_ca (goodIn_r _ [6, 7, 8, 9, 10, 5, 11, 12, 13, 14, 15, 16, 17, 18, 19, 20, 21, 22, 23, 24, 25, 26, 27, 28, 29, 30, 31] (by decide +kernel) (by decide +kernel)) (goodIn_sub (fun _ h => List.mem_cons_of_mem _ (List.mem_append_right _ h)) (by decide +kernel))
set_option maxRecDepth 20000 in
theorem gL_stateOf_X2_stateOf : GoodIn wsL_stateOf (wsV RL 74 RX2 yX2_stateOf wsX2_stateOf) := goodIn_app (goodIn_of _ (by decide +kernel)) ggL_stateOf_X2_stateOf
theorem dL_stateOf_0 : decode cL_stateOf 0 = .ok (.aload_n 2, 1) := by decide +kernel
theorem dL_stateOf_1 : decode cL_stateOf 1 = .ok (.iconst 0, 1) := by decide +kernel
theorem dL_stateOf_2 : decode cL_stateOf 2 = .ok (.aload_n 0, 1) := by decide +kernel
theorem dL_stateOf_3 : decode cL_stateOf 3 = .ok (.iload_n 1, 1) := by decide +kernel
theorem dL_stateOf_4 : decode cL_stateOf 4 = .ok (.invokevirtual 74, 3) := by decide +kernel
theorem dL_stateOf_7 : decode cL_stateOf 7 = .ok (.i2l, 1) := by decide +kernel
theorem dL_stateOf_8 : decode cL_stateOf 8 = .ok (.lastore, 1) := by decide +kernel
theorem dL_stateOf_9 : decode cL_stateOf 9 = .ok (.goto 6, 3) := by decide +kernel
theorem dL_stateOf_12 : decode cL_stateOf 12 = .ok (.astore_n 3, 1) := by decide +kernel
theorem dL_stateOf_13 : decode cL_stateOf 13 = .ok (.iconst 1, 1) := by decide +kernel
theorem dL_stateOf_14 : decode cL_stateOf 14 = .ok (.ireturn, 1) := by decide +kernel
theorem dL_stateOf_15 : decode cL_stateOf 15 = .ok (.iconst 0, 1) := by decide +kernel
theorem dL_stateOf_16 : decode cL_stateOf 16 = .ok (.ireturn, 1) := by decide +kernel
set_option maxRecDepth 20000 in
theorem ggL_addressOf_X2_addressOf : GoodIn wsL_addressOf wsX2_addressOf := goodIn_ca (goodIn_r _ [6, 7, 8, 9, 10, 5, 11, 12, 13, 14, 15, 16, 17, 18, 19, 20, 21, 22, 23, 24, 25, 26, 27, 28, 29, 30, 31] (by decide +kernel) (by decide +kernel)) (goodIn_sub (fun _ h => List.mem_cons_of_mem _ (List.mem_append_right _ h)) (by decide +kernel))
set_option maxRecDepth 20000 in
theorem gL_addressOf_X2_addressOf : GoodIn wsL_addressOf (wsV RL 77 RX2 yX2_addressOf wsX2_addressOf) := goodIn_app (goodIn_of _ (by decide +kernel)) ggL_addressOf_X2_addressOf
theorem dL_addressOf_0 : decode cL_addressOf 0 = .ok (.aload_n 2, 1) := by decide +kernel
theorem dL_addressOf_1 : decode cL_addressOf 1 = .ok (.iconst 0, 1) := by decide +kernel
theorem dL_addressOf_2 : decode cL_addressOf 2 = .ok (.aload_n 0, 1) := by decide +kernel
theorem dL_addressOf_3 : decode cL_addressOf 3 = .ok (.iload_n 1, 1) := by decide +kernel
theorem dL_addressOf_4 : decode cL_addressOf 4 = .ok (.invokevirtual 77, 3) := by decide +kernel
theorem dL_addressOf_7 : decode cL_addressOf 7 = .ok (.i2l, 1) := by decide +kernel
theorem dL_addressOf_8 : decode cL_addressOf 8 = .ok (.lastore, 1) := by decide +kernel
theorem dL_addressOf_9 : decode cL_addressOf 9 = .ok (.goto 6, 3) := by decide +kernel
theorem dL_addressOf_12 : decode cL_addressOf 12 = .ok (.astore_n 3, 1) := by decide +kernel
theorem dL_addressOf_13 : decode cL_addressOf 13 = .ok (.iconst 1, 1) := by decide +kernel
theorem dL_addressOf_14 : decode cL_addressOf 14 = .ok (.ireturn, 1) := by decide +kernel
theorem dL_addressOf_15 : decode cL_addressOf 15 = .ok (.iconst 0, 1) := by decide +kernel
theorem dL_addressOf_16 : decode cL_addressOf 16 = .ok (.ireturn, 1) := by decide +kernel
set_option maxRecDepth 20000 in
theorem ggL_resultOf_X2_resultOf : GoodIn wsL_resultOf wsX2_resultOf := goodIn_ca (goodIn_r _ [6, 7, 8, 9, 10, 5, 11, 12, 13, 14, 15, 16, 17, 18, 19, 20, 21, 22, 23, 24, 25, 26, 27, 28, 29, 30, 31] (by decide +kernel) (by decide +kernel)) (goodIn_sub (fun _ h => List.mem_cons_of_mem _ (List.mem_append_right _ h)) (by decide +kernel))
set_option maxRecDepth 20000 in
theorem gL_resultOf_X2_resultOf : GoodIn wsL_resultOf (wsV RL 80 RX2 yX2_resultOf wsX2_resultOf) := goodIn_app (goodIn_of _ (by decide +kernel)) ggL_resultOf_X2_resultOf
theorem dL_resultOf_0 : decode cL_resultOf 0 = .ok (.aload_n 2, 1) := by decide +kernel
theorem dL_resultOf_1 : decode cL_resultOf 1 = .ok (.iconst 0, 1) := by decide +kernel
theorem dL_resultOf_2 : decode cL_resultOf 2 = .ok (.aload_n 0, 1) := by decide +kernel
theorem dL_resultOf_3 : decode cL_resultOf 3 = .ok (.iload_n 1, 1) := by decide +kernel
theorem dL_resultOf_4 : decode cL_resultOf 4 = .ok (.invokevirtual 80, 3) := by decide +kernel
theorem dL_resultOf_7 : decode cL_resultOf 7 = .ok (.i2l, 1) := by decide +kernel
theorem dL_resultOf_8 : decode cL_resultOf 8 = .ok (.lastore, 1) := by decide +kernel
theorem dL_resultOf_9 : decode cL_resultOf 9 = .ok (.goto 6, 3) := by decide +kernel
theorem dL_resultOf_12 : decode cL_resultOf 12 = .ok (.astore_n 3, 1) := by decide +kernel
theorem dL_resultOf_13 : decode cL_resultOf 13 = .ok (.iconst 1, 1) := by decide +kernel
theorem dL_resultOf_14 : decode cL_resultOf 14 = .ok (.ireturn, 1) := by decide +kernel
theorem dL_resultOf_15 : decode cL_resultOf 15 = .ok (.iconst 0, 1) := by decide +kernel
theorem dL_resultOf_16 : decode cL_resultOf 16 = .ok (.ireturn, 1) := by decide +kernel
set_option maxRecDepth 20000 in
theorem ggL_serialOf_X2_serialOf : GoodIn wsL_serialOf wsX2_serialOf := goodIn_ca (goodIn_r _ [6, 7, 8, 9, 10, 5, 11, 12, 13, 14, 15, 16, 17, 18, 19, 20, 21, 22, 23, 24, 25, 26, 27, 28, 29, 30, 31] (by decide +kernel) (by decide +kernel)) (goodIn_sub (fun _ h => List.mem_cons_of_mem _ (List.mem_append_right _ h)) (by decide +kernel))
set_option maxRecDepth 20000 in
theorem gL_serialOf_X2_serialOf : GoodIn wsL_serialOf (wsV RL 83 RX2 yX2_serialOf wsX2_serialOf) := goodIn_app (goodIn_of _ (by decide +kernel)) ggL_serialOf_X2_serialOf
theorem dL_serialOf_0 : decode cL_serialOf 0 = .ok (.aload_n 2, 1) := by decide +kernel
theorem dL_serialOf_1 : decode cL_serialOf 1 = .ok (.iconst 0, 1) := by decide +kernel
theorem dL_serialOf_2 : decode cL_serialOf 2 = .ok (.aload_n 0, 1) := by decide +kernel
theorem dL_serialOf_3 : decode cL_serialOf 3 = .ok (.iload_n 1, 1) := by decide +kernel
theorem dL_serialOf_4 : decode cL_serialOf 4 = .ok (.invokevirtual 83, 3) := by decide +kernel
theorem dL_serialOf_7 : decode cL_serialOf 7 = .ok (.i2l, 1) := by decide +kernel
theorem dL_serialOf_8 : decode cL_serialOf 8 = .ok (.lastore, 1) := by decide +kernel
theorem dL_serialOf_9 : decode cL_serialOf 9 = .ok (.goto 6, 3) := by decide +kernel
theorem dL_serialOf_12 : decode cL_serialOf 12 = .ok (.astore_n 3, 1) := by decide +kernel
theorem dL_serialOf_13 : decode cL_serialOf 13 = .ok (.iconst 1, 1) := by decide +kernel
theorem dL_serialOf_14 : decode cL_serialOf 14 = .ok (.ireturn, 1) := by decide +kernel
theorem dL_serialOf_15 : decode cL_serialOf 15 = .ok (.iconst 0, 1) := by decide +kernel
theorem dL_serialOf_16 : decode cL_serialOf 16 = .ok (.ireturn, 1) := by decide +kernel
set_option maxRecDepth 20000 in
theorem ggL_waiters_X2_waiters : GoodIn wsL_waiters wsX2_waiters := goodIn_ca (goodIn_r _ [6, 7, 8, 9, 10, 5, 11, 12, 13, 14, 15, 16, 17, 18, 19, 20, 21, 22, 23, 24, 25, 26, 27, 28, 29, 30, 31, 32, 33] (by decide +kernel) (by decide +kernel)) (goodIn_sub (fun _ h => List.mem_cons_of_mem _ (List.mem_append_right _ h)) (by decide +kernel))
set_option maxRecDepth 20000 in
theorem gL_waiters_X2_waiters : GoodIn wsL_waiters (wsV RL 86 RX2 yX2_waiters wsX2_waiters) := goodIn_app (goodIn_of _ (by decide +kernel)) ggL_waiters_X2_waiters
theorem dL_waiters_0 : decode cL_waiters 0 = .ok (.aload_n 2, 1) := by decide +kernel
theorem dL_waiters_1 : decode cL_waiters 1 = .ok (.iconst 0, 1) := by decide +kernel
theorem dL_waiters_2 : decode cL_waiters 2 = .ok (.aload_n 0, 1) := by decide +kernel
theorem dL_waiters_3 : decode cL_waiters 3 = .ok (.iload_n 1, 1) := by decide +kernel
theorem dL_waiters_4 : decode cL_waiters 4 = .ok (.invokevirtual 86, 3) := by decide +kernel
theorem dL_waiters_7 : decode cL_waiters 7 = .ok (.i2l, 1) := by decide +kernel
theorem dL_waiters_8 : decode cL_waiters 8 = .ok (.lastore, 1) := by decide +kernel
theorem dL_waiters_9 : decode cL_waiters 9 = .ok (.goto 6, 3) := by decide +kernel
theorem dL_waiters_12 : decode cL_waiters 12 = .ok (.astore_n 3, 1) := by decide +kernel
theorem dL_waiters_13 : decode cL_waiters 13 = .ok (.iconst 1, 1) := by decide +kernel
theorem dL_waiters_14 : decode cL_waiters 14 = .ok (.ireturn, 1) := by decide +kernel
theorem dL_waiters_15 : decode cL_waiters 15 = .ok (.iconst 0, 1) := by decide +kernel
theorem dL_waiters_16 : decode cL_waiters 16 = .ok (.ireturn, 1) := by decide +kernel
set_option maxRecDepth 20000 in
theorem ggL_waiterAt_X2_waiterAt : GoodIn wsL_waiterAt wsX2_waiterAt := goodIn_ca (goodIn_r _ [6, 7, 8, 9, 10, 11, 12, 13, 5, 14, 15, 16, 17, 18, 19, 20, 21, 22, 23, 24, 25, 26, 27, 28, 29, 30, 31, 32, 33, 34, 35, 36, 37, 38, 39, 40, 41, 42, 43, 44, 45] (by decide +kernel) (by decide +kernel)) (goodIn_sub (fun _ h => List.mem_cons_of_mem _ (List.mem_append_right _ h)) (by decide +kernel))
set_option maxRecDepth 20000 in
theorem gL_waiterAt_X2_waiterAt : GoodIn wsL_waiterAt (wsV RL 89 RX2 yX2_waiterAt wsX2_waiterAt) := goodIn_app (goodIn_of _ (by decide +kernel)) ggL_waiterAt_X2_waiterAt
theorem dL_waiterAt_0 : decode cL_waiterAt 0 = .ok (.aload_n 3, 1) := by decide +kernel
theorem dL_waiterAt_1 : decode cL_waiterAt 1 = .ok (.iconst 0, 1) := by decide +kernel
theorem dL_waiterAt_2 : decode cL_waiterAt 2 = .ok (.aload_n 0, 1) := by decide +kernel
theorem dL_waiterAt_3 : decode cL_waiterAt 3 = .ok (.iload_n 1, 1) := by decide +kernel
theorem dL_waiterAt_4 : decode cL_waiterAt 4 = .ok (.iload_n 2, 1) := by decide +kernel
theorem dL_waiterAt_5 : decode cL_waiterAt 5 = .ok (.invokevirtual 89, 3) := by decide +kernel
theorem dL_waiterAt_8 : decode cL_waiterAt 8 = .ok (.i2l, 1) := by decide +kernel
theorem dL_waiterAt_9 : decode cL_waiterAt 9 = .ok (.lastore, 1) := by decide +kernel
theorem dL_waiterAt_10 : decode cL_waiterAt 10 = .ok (.goto 7, 3) := by decide +kernel
theorem dL_waiterAt_13 : decode cL_waiterAt 13 = .ok (.astore 4, 2) := by decide +kernel
theorem dL_waiterAt_15 : decode cL_waiterAt 15 = .ok (.iconst 1, 1) := by decide +kernel
theorem dL_waiterAt_16 : decode cL_waiterAt 16 = .ok (.ireturn, 1) := by decide +kernel
theorem dL_waiterAt_17 : decode cL_waiterAt 17 = .ok (.iconst 0, 1) := by decide +kernel
theorem dL_waiterAt_18 : decode cL_waiterAt 18 = .ok (.ireturn, 1) := by decide +kernel
set_option maxRecDepth 20000 in
theorem ggL_queueAt_X2_queueAt : GoodIn wsL_queueAt wsX2_queueAt := goodIn_ca (goodIn_r _ [6, 7, 8, 9, 10, 11, 12, 13, 14, 15, 16, 17, 18, 19, 5, 20, 21, 22, 23, 24, 25, 26, 27, 28, 29, 30, 31, 32, 33, 34, 35, 36, 37, 38, 39, 40, 41, 42, 43, 44, 45, 46, 47] (by decide +kernel) (by decide +kernel)) (goodIn_sub (fun _ h => List.mem_cons_of_mem _ (List.mem_append_right _ h)) (by decide +kernel))
set_option maxRecDepth 20000 in
theorem gL_queueAt_X2_queueAt : GoodIn wsL_queueAt (wsV RL 92 RX2 yX2_queueAt wsX2_queueAt) := goodIn_app (goodIn_of _ (by decide +kernel)) ggL_queueAt_X2_queueAt
theorem dL_queueAt_0 : decode cL_queueAt 0 = .ok (.aload_n 3, 1) := by decide +kernel
theorem dL_queueAt_1 : decode cL_queueAt 1 = .ok (.iconst 0, 1) := by decide +kernel
theorem dL_queueAt_2 : decode cL_queueAt 2 = .ok (.aload_n 0, 1) := by decide +kernel
theorem dL_queueAt_3 : decode cL_queueAt 3 = .ok (.iload_n 1, 1) := by decide +kernel
theorem dL_queueAt_4 : decode cL_queueAt 4 = .ok (.iload_n 2, 1) := by decide +kernel
theorem dL_queueAt_5 : decode cL_queueAt 5 = .ok (.invokevirtual 92, 3) := by decide +kernel
theorem dL_queueAt_8 : decode cL_queueAt 8 = .ok (.i2l, 1) := by decide +kernel
theorem dL_queueAt_9 : decode cL_queueAt 9 = .ok (.lastore, 1) := by decide +kernel
theorem dL_queueAt_10 : decode cL_queueAt 10 = .ok (.goto 7, 3) := by decide +kernel
theorem dL_queueAt_13 : decode cL_queueAt 13 = .ok (.astore 4, 2) := by decide +kernel
theorem dL_queueAt_15 : decode cL_queueAt 15 = .ok (.iconst 1, 1) := by decide +kernel
theorem dL_queueAt_16 : decode cL_queueAt 16 = .ok (.ireturn, 1) := by decide +kernel
theorem dL_queueAt_17 : decode cL_queueAt 17 = .ok (.iconst 0, 1) := by decide +kernel
theorem dL_queueAt_18 : decode cL_queueAt 18 = .ok (.ireturn, 1) := by decide +kernel
