theorem dL_cell_0 : decode cL_cell 0 = .ok (.iload_n 1, 1) := by decide +kernel
theorem dL_cell_1 : decode cL_cell 1 = .ok (.aload_n 0, 1) := by decide +kernel
theorem dL_cell_2 : decode cL_cell 2 = .ok (.arraylength, 1) := by decide +kernel
theorem dL_cell_3 : decode cL_cell 3 = .ok (.if_icmp .ge 9, 3) := by decide +kernel
theorem dL_cell_6 : decode cL_cell 6 = .ok (.aload_n 0, 1) := by decide +kernel
theorem dL_cell_7 : decode cL_cell 7 = .ok (.iload_n 1, 1) := by decide +kernel
theorem dL_cell_8 : decode cL_cell 8 = .ok (.iaload, 1) := by decide +kernel
theorem dL_cell_9 : decode cL_cell 9 = .ok (.goto 10, 3) := by decide +kernel
theorem dL_cell_12 : decode cL_cell 12 = .ok (.ldc 7, 2) := by decide +kernel
theorem dL_cell_14 : decode cL_cell 14 = .ok (.iload_n 1, 1) := by decide +kernel
theorem dL_cell_15 : decode cL_cell 15 = .ok (.bipush 7, 2) := by decide +kernel
theorem dL_cell_17 : decode cL_cell 17 = .ok (.iadd, 1) := by decide +kernel
theorem dL_cell_18 : decode cL_cell 18 = .ok (.imul, 1) := by decide +kernel
theorem dL_cell_19 : decode cL_cell 19 = .ok (.istore_n 2, 1) := by decide +kernel
theorem dL_cell_20 : decode cL_cell 20 = .ok (.iload_n 2, 1) := by decide +kernel
theorem dL_cell_21 : decode cL_cell 21 = .ok (.iload_n 2, 1) := by decide +kernel
theorem dL_cell_22 : decode cL_cell 22 = .ok (.bipush 16, 2) := by decide +kernel
theorem dL_cell_24 : decode cL_cell 24 = .ok (.iushr, 1) := by decide +kernel
theorem dL_cell_25 : decode cL_cell 25 = .ok (.ixor, 1) := by decide +kernel
theorem dL_cell_26 : decode cL_cell 26 = .ok (.ldc 8, 2) := by decide +kernel
theorem dL_cell_28 : decode cL_cell 28 = .ok (.imul, 1) := by decide +kernel
theorem dL_cell_29 : decode cL_cell 29 = .ok (.bipush 41, 2) := by decide +kernel
theorem dL_cell_31 : decode cL_cell 31 = .ok (.iload_n 1, 1) := by decide +kernel
theorem dL_cell_32 : decode cL_cell 32 = .ok (.imul, 1) := by decide +kernel
theorem dL_cell_33 : decode cL_cell 33 = .ok (.iadd, 1) := by decide +kernel
theorem dL_cell_34 : decode cL_cell 34 = .ok (.ireturn, 1) := by decide +kernel
theorem dL_some_0 : decode cL_some 0 = .ok (.iload_n 0, 1) := by decide +kernel
theorem dL_some_1 : decode cL_some 1 = .ok (.iconst 1, 1) := by decide +kernel
theorem dL_some_2 : decode cL_some 2 = .ok (.iushr, 1) := by decide +kernel
theorem dL_some_3 : decode cL_some 3 = .ok (.iload_n 1, 1) := by decide +kernel
theorem dL_some_4 : decode cL_some 4 = .ok (.irem, 1) := by decide +kernel
theorem dL_some_5 : decode cL_some 5 = .ok (.ireturn, 1) := by decide +kernel
set_option maxRecDepth 20000 in
theorem ggL_await_X2_await : GoodIn wsL_await wsX2_await := goodIn_ca (goodIn_ca (goodIn_ca (goodIn_r _ [11, 12, 13, 14, 15, 10, 16, 17, 18, 19, 20, 21, 22, 23, 24, 25, 26, 27, 28, 29, 30, 31, 32, 33, 34, 35, 36, 37, 38, 39, 40, 41, 42, 43, 44, 45, 46, 47, 48, 49, 50, 51, 52, 53, 54, 55, 56, 57, 58, 59, 60, 61, 62, 63, 64, 65, 66, 67, 68, 69] (by decide +kernel) (by decide +kernel)) (goodIn_sub (fun _ h => List.mem_cons_of_mem _ (List.mem_append_left _ (List.mem_append_left _ (List.mem_append_right _ h)))) (by decide +kernel))) (goodIn_sub (fun _ h => List.mem_cons_of_mem _ (List.mem_append_left _ (List.mem_append_right _ h))) (by decide +kernel))) (goodIn_sub (fun _ h => List.mem_cons_of_mem _ (List.mem_append_right _ h)) (by decide +kernel))
set_option maxRecDepth 20000 in
theorem gL_await_X2_await : GoodIn wsL_await (wsV RL 9 RX2 yX2_await wsX2_await) := goodIn_app (goodIn_of _ (by decide +kernel)) ggL_await_X2_await
theorem dL_await_0 : decode cL_await 0 = .ok (.aload_n 0, 1) := by decide +kernel
theorem dL_await_1 : decode cL_await 1 = .ok (.iload_n 1, 1) := by decide +kernel
theorem dL_await_2 : decode cL_await 2 = .ok (.iload_n 2, 1) := by decide +kernel
theorem dL_await_3 : decode cL_await 3 = .ok (.iload_n 3, 1) := by decide +kernel
theorem dL_await_4 : decode cL_await 4 = .ok (.iload 4, 2) := by decide +kernel
theorem dL_await_6 : decode cL_await 6 = .ok (.iload 5, 2) := by decide +kernel
theorem dL_await_8 : decode cL_await 8 = .ok (.invokevirtual 9, 3) := by decide +kernel
theorem dL_await_11 : decode cL_await 11 = .ok (.ifCond .eq 7, 3) := by decide +kernel
theorem dL_await_14 : decode cL_await 14 = .ok (.iconst 1, 1) := by decide +kernel
theorem dL_await_15 : decode cL_await 15 = .ok (.goto 4, 3) := by decide +kernel
theorem dL_await_18 : decode cL_await 18 = .ok (.iconst 0, 1) := by decide +kernel
theorem dL_await_19 : decode cL_await 19 = .ok (.ireturn, 1) := by decide +kernel
theorem dL_await_20 : decode cL_await 20 = .ok (.astore 6, 2) := by decide +kernel
theorem dL_await_22 : decode cL_await 22 = .ok (.ldc 17, 2) := by decide +kernel
theorem dL_await_24 : decode cL_await 24 = .ok (.ireturn, 1) := by decide +kernel
theorem dL_await_25 : decode cL_await 25 = .ok (.astore 6, 2) := by decide +kernel
theorem dL_await_27 : decode cL_await 27 = .ok (.ldc 20, 2) := by decide +kernel
theorem dL_await_29 : decode cL_await 29 = .ok (.ireturn, 1) := by decide +kernel
theorem dL_await_30 : decode cL_await 30 = .ok (.astore 6, 2) := by decide +kernel
theorem dL_await_32 : decode cL_await 32 = .ok (.ldc 23, 2) := by decide +kernel
theorem dL_await_34 : decode cL_await 34 = .ok (.ireturn, 1) := by decide +kernel
set_option maxRecDepth 20000 in
theorem ggL_requeue_X2_requeue : GoodIn wsL_requeue wsX2_requeue := goodIn_ca (goodIn_ca (goodIn_ca (goodIn_r _ [11, 12, 13, 14, 15, 16, 17, 10, 18, 19, 20, 21, 22, 23, 24, 25, 26, 27, 28, 29, 30, 31, 32, 33, 34, 35, 36, 37, 38, 39, 40, 41, 42, 43, 44, 45, 46, 47, 48, 49, 50, 51, 52, 53, 54, 55, 56, 57, 58, 59, 60, 61, 62, 63, 64, 65, 66, 67, 68, 69, 70, 71, 72, 73, 74, 75, 76, 77, 78, 79, 80, 81, 82, 83, 84, 85, 86, 87, 88, 89, 90, 91, 92, 93, 94, 95, 96, 97] (by decide +kernel) (by decide +kernel)) (goodIn_sub (fun _ h => List.mem_cons_of_mem _ (List.mem_append_left _ (List.mem_append_left _ (List.mem_append_right _ h)))) (by decide +kernel))) (goodIn_sub (fun _ h => List.mem_cons_of_mem _ (List.mem_append_left _ (List.mem_append_right _ h))) (by decide +kernel))) (goodIn_sub (fun _ h => List.mem_cons_of_mem _ (List.mem_append_right _ h)) (by decide +kernel))
set_option maxRecDepth 20000 in
theorem gL_requeue_X2_requeue : GoodIn wsL_requeue (wsV RL 24 RX2 yX2_requeue wsX2_requeue) := goodIn_app (goodIn_of _ (by decide +kernel)) ggL_requeue_X2_requeue
theorem dL_requeue_0 : decode cL_requeue 0 = .ok (.aload_n 0, 1) := by decide +kernel
theorem dL_requeue_1 : decode cL_requeue 1 = .ok (.iload_n 1, 1) := by decide +kernel
theorem dL_requeue_2 : decode cL_requeue 2 = .ok (.iload_n 2, 1) := by decide +kernel
theorem dL_requeue_3 : decode cL_requeue 3 = .ok (.iload_n 3, 1) := by decide +kernel
theorem dL_requeue_4 : decode cL_requeue 4 = .ok (.iload 4, 2) := by decide +kernel
theorem dL_requeue_6 : decode cL_requeue 6 = .ok (.iload 5, 2) := by decide +kernel
theorem dL_requeue_8 : decode cL_requeue 8 = .ok (.iload 6, 2) := by decide +kernel
theorem dL_requeue_10 : decode cL_requeue 10 = .ok (.invokevirtual 24, 3) := by decide +kernel
theorem dL_requeue_13 : decode cL_requeue 13 = .ok (.ireturn, 1) := by decide +kernel
theorem dL_requeue_14 : decode cL_requeue 14 = .ok (.astore 7, 2) := by decide +kernel
theorem dL_requeue_16 : decode cL_requeue 16 = .ok (.ldc 17, 2) := by decide +kernel
theorem dL_requeue_18 : decode cL_requeue 18 = .ok (.ireturn, 1) := by decide +kernel
theorem dL_requeue_19 : decode cL_requeue 19 = .ok (.astore 7, 2) := by decide +kernel
theorem dL_requeue_21 : decode cL_requeue 21 = .ok (.ldc 20, 2) := by decide +kernel
theorem dL_requeue_23 : decode cL_requeue 23 = .ok (.ireturn, 1) := by decide +kernel
theorem dL_requeue_24 : decode cL_requeue 24 = .ok (.astore 7, 2) := by decide +kernel
theorem dL_requeue_26 : decode cL_requeue 26 = .ok (.ldc 23, 2) := by decide +kernel
theorem dL_requeue_28 : decode cL_requeue 28 = .ok (.ireturn, 1) := by decide +kernel
set_option maxRecDepth 20000 in
theorem ggL_acts_X2_lock : GoodIn wsL_acts wsX2_lock := goodIn_ca (goodIn_ca (goodIn_ca (goodIn_r _ [11, 12, 13, 14, 15, 16, 17, 18, 10, 19, 20, 21, 22, 23, 24, 25, 26, 27, 28, 29, 30, 31, 32, 33, 34, 35, 36, 37, 38, 39, 40, 41, 42, 43, 44, 45, 46, 47, 48, 49, 50, 51, 52, 53, 54, 55, 56, 57, 58, 59, 60, 61, 62, 63, 64, 65, 66, 67, 68, 69, 70, 71, 72, 73, 74, 75, 76, 77, 78, 79, 80, 81, 82, 83, 84, 85, 86, 87, 88, 89, 90, 91, 92, 93, 94, 183, 184, 185, 186, 187, 188, 189, 190, 191, 192, 193, 194, 195, 196, 197, 198, 199, 200, 201] (by decide +kernel) (by decide +kernel)) (goodIn_sub (fun _ h => List.mem_cons_of_mem _ (List.mem_append_left _ (List.mem_append_left _ (List.mem_append_right _ h)))) (by decide +kernel))) (goodIn_sub (fun _ h => List.mem_cons_of_mem _ (List.mem_append_left _ (List.mem_append_right _ h))) (by decide +kernel))) (goodIn_sub (fun _ h => List.mem_cons_of_mem _ (List.mem_append_right _ h)) (by decide +kernel))
set_option maxRecDepth 20000 in
theorem gL_acts_X2_lock : GoodIn wsL_acts (wsV RL 28 RX2 yX2_lock wsX2_lock) := goodIn_app (goodIn_of _ (by decide +kernel)) ggL_acts_X2_lock
set_option maxRecDepth 20000 in
theorem ggL_acts_X2_unlock : GoodIn wsL_acts wsX2_unlock := goodIn_ca (goodIn_ca (goodIn_r _ [98, 37, 38, 44, 16, 17, 18, 10, 19, 20, 21, 22, 23, 24, 25, 26, 27, 28, 34, 35, 36, 14, 73, 74, 75, 76, 12, 99, 100, 101, 65, 102, 67, 68, 69, 70, 71, 72, 103, 104, 105, 106, 13, 43, 45, 46, 47, 48, 49, 50, 51, 52, 53, 54, 55, 56, 57, 58, 59, 60, 61, 107, 108, 109, 110, 111, 112, 113, 114, 115, 116, 117, 86, 118, 39, 40, 41, 42, 15, 62, 63, 64, 66, 189, 190, 191, 192, 193, 194, 195, 196, 197, 198, 199, 183, 184, 185, 186, 187, 188, 200, 201] (by decide +kernel) (by decide +kernel)) (goodIn_sub (fun _ h => List.mem_cons_of_mem _ (List.mem_append_right _ h)) (by decide +kernel))) (goodIn_sub (fun _ h => List.mem_cons_of_mem _ (List.mem_append_left _ (List.mem_append_left _ (List.mem_append_right _ h)))) (by decide +kernel))
set_option maxRecDepth 20000 in
theorem gL_acts_X2_unlock : GoodIn wsL_acts (wsV RL 32 RX2 yX2_unlock wsX2_unlock) := goodIn_app (goodIn_of _ (by decide +kernel)) ggL_acts_X2_unlock
set_option maxRecDepth 20000 in
theorem ggL_acts_X2_wake : GoodIn wsL_acts wsX2_wake := goodIn_ca (goodIn_ca (goodIn_ca (goodIn_r _ [122, 16, 17, 18, 10, 19, 20, 21, 22, 23, 24, 25, 26, 27, 28, 29, 30, 31, 32, 33, 34, 35, 36, 37, 38, 14, 123, 124, 125, 126, 49, 50, 51, 52, 53, 54, 55, 56, 57, 58, 59, 60, 61, 107, 108, 109, 110, 111, 112, 113, 114, 115, 116, 117, 86, 12, 118, 45, 46, 47, 48, 183, 184, 185, 186, 187, 188, 189, 190, 191, 192, 193, 194, 195, 196, 197, 198, 199] (by decide +kernel) (by decide +kernel)) (goodIn_sub (fun _ h => List.mem_cons_of_mem _ (List.mem_append_left _ (List.mem_append_left _ (List.mem_append_right _ h)))) (by decide +kernel))) (goodIn_sub (fun _ h => List.mem_cons_of_mem _ (List.mem_append_left _ (List.mem_append_right _ h))) (by decide +kernel))) (goodIn_sub (fun _ h => List.mem_cons_of_mem _ (List.mem_append_right _ h)) (by decide +kernel))
set_option maxRecDepth 20000 in
theorem gL_acts_X2_wake : GoodIn wsL_acts (wsV RL 36 RX2 yX2_wake wsX2_wake) := goodIn_app (goodIn_of _ (by decide +kernel)) ggL_acts_X2_wake
set_option maxRecDepth 20000 in
theorem ggL_acts_X2_exit : GoodIn wsL_acts wsX2_exit := goodIn_ca (goodIn_ca (goodIn_r _ [130, 14, 44, 131, 16, 17, 18, 10, 19, 20, 21, 22, 132, 133, 134, 37, 38, 135, 136, 137, 58, 138, 139, 114, 115, 116, 117, 53, 86, 12, 118, 26, 27, 28, 45, 46, 47, 48, 49, 50, 51, 52, 54, 55, 56, 57, 59, 60, 61, 140, 141, 142, 65, 143, 67, 68, 73, 74, 75, 76, 103, 104, 105, 106, 13, 43, 107, 108, 109, 110, 111, 112, 113, 39, 40, 41, 42, 15, 62, 63, 64, 66, 69, 70, 71, 72, 144, 145, 146, 147, 189, 190, 191, 192, 193, 194, 195, 196, 197, 198, 199, 200, 201, 183, 184, 185, 186, 187, 188] (by decide +kernel) (by decide +kernel)) (goodIn_sub (fun _ h => List.mem_cons_of_mem _ (List.mem_append_left _ (List.mem_append_left _ (List.mem_append_right _ h)))) (by decide +kernel))) (goodIn_sub (fun _ h => List.mem_cons_of_mem _ (List.mem_append_right _ h)) (by decide +kernel))
set_option maxRecDepth 20000 in
theorem gL_acts_X2_exit : GoodIn wsL_acts (wsV RL 40 RX2 yX2_exit wsX2_exit) := goodIn_app (goodIn_of _ (by decide +kernel)) ggL_acts_X2_exit
set_option maxRecDepth 20000 in
theorem ggL_acts_X2_setPriority : GoodIn wsL_acts wsX2_setPriority := goodIn_ca (goodIn_ca (goodIn_ca (goodIn_r _ [151, 152, 53, 16, 17, 18, 10, 19, 20, 21, 22, 29, 30, 31, 32, 33, 132, 133, 134, 37, 38, 14, 135, 136, 137, 58, 138, 139, 89, 90, 91, 92, 93, 94, 189, 190, 191, 192, 193, 194, 195, 196, 197, 198, 199, 183, 184, 185, 186, 187, 188] (by decide +kernel) (by decide +kernel)) (goodIn_sub (fun _ h => List.mem_cons_of_mem _ (List.mem_append_left _ (List.mem_append_left _ (List.mem_append_right _ h)))) (by decide +kernel))) (goodIn_sub (fun _ h => List.mem_cons_of_mem _ (List.mem_append_left _ (List.mem_append_right _ h))) (by decide +kernel))) (goodIn_sub (fun _ h => List.mem_cons_of_mem _ (List.mem_append_right _ h)) (by decide +kernel))
set_option maxRecDepth 20000 in
theorem gL_acts_X2_setPriority : GoodIn wsL_acts (wsV RL 44 RX2 yX2_setPriority wsX2_setPriority) := goodIn_app (goodIn_of _ (by decide +kernel)) ggL_acts_X2_setPriority
set_option maxRecDepth 20000 in
theorem ggL_acts_X2_tick : GoodIn wsL_acts wsX2_tick := goodIn_ca (goodIn_r _ [156, 85, 86, 29, 30, 10, 31, 32, 33, 157, 158, 159, 160, 22, 161, 162, 163, 58, 164, 165, 166, 107, 108, 109, 110, 111, 112, 113, 114, 115, 116, 117, 53, 14, 12, 118, 26, 27, 28, 45, 46, 47, 48, 49, 50, 51, 52, 54, 55, 56, 57, 59, 60, 61, 183, 184, 185, 186, 187, 188, 189, 190, 191, 192, 193, 194, 195, 196, 197, 198, 199] (by decide +kernel) (by decide +kernel)) (goodIn_sub (fun _ h => List.mem_cons_of_mem _ (List.mem_append_left _ (List.mem_append_right _ h))) (by decide +kernel))
set_option maxRecDepth 20000 in
theorem gL_acts_X2_tick : GoodIn wsL_acts (wsV RL 47 RX2 yX2_tick wsX2_tick) := goodIn_app (goodIn_of _ (by decide +kernel)) ggL_acts_X2_tick
set_option maxRecDepth 20000 in
theorem ggL_acts_X2_compareAndSet : GoodIn wsL_acts wsX2_compareAndSet := goodIn_ca (goodIn_ca (goodIn_r _ [170, 12, 16, 17, 18, 10, 19, 20, 21, 22, 23, 24, 25, 26, 27, 28, 34, 35, 36, 37, 38, 14, 183, 184, 185, 186, 187, 188, 189, 190, 191, 192, 193, 194, 195, 196, 197, 198, 199] (by decide +kernel) (by decide +kernel)) (goodIn_sub (fun _ h => List.mem_cons_of_mem _ (List.mem_append_left _ (List.mem_append_left _ (List.mem_append_right _ h)))) (by decide +kernel))) (goodIn_sub (fun _ h => List.mem_cons_of_mem _ (List.mem_append_right _ h)) (by decide +kernel))
set_option maxRecDepth 20000 in
theorem gL_acts_X2_compareAndSet : GoodIn wsL_acts (wsV RL 50 RX2 yX2_compareAndSet wsX2_compareAndSet) := goodIn_app (goodIn_of _ (by decide +kernel)) ggL_acts_X2_compareAndSet
set_option maxRecDepth 20000 in
theorem ggL_acts_L_starts : GoodIn wsL_acts wsL_starts := goodIn_ca (goodIn_ca (goodIn_r _ [174, 175, 176, 177, 10, 178, 37, 38, 14, 152, 111, 113, 16, 17, 18, 19, 20, 21, 22, 179, 180, 181, 182, 135, 136, 137, 58, 138, 139, 107, 108, 109, 110, 112, 114, 115, 116, 117, 53, 86, 12, 118, 26, 27, 28, 45, 46, 47, 48, 49, 50, 51, 52, 54, 55, 56, 57, 59, 60, 61, 189, 190, 191, 192, 193, 194, 195, 196, 197, 198, 199, 183, 184, 185, 186, 187, 188] (by decide +kernel) (by decide +kernel)) (goodIn_sub (fun _ h => List.mem_cons_of_mem _ (List.mem_append_right _ h)) (by decide +kernel))) (goodIn_sub (fun _ h => List.mem_cons_of_mem _ (List.mem_append_left _ (List.mem_append_left _ (List.mem_append_right _ h)))) (by decide +kernel))
set_option maxRecDepth 20000 in
theorem gL_acts_L_starts : GoodIn wsL_acts (va_wsS RL 54 yL_starts wsL_starts) := goodIn_app (goodIn_of _ (by decide +kernel)) ggL_acts_L_starts
theorem dL_acts_0 : decode cL_acts 0 = .ok (.iload_n 1, 1) := by decide +kernel
theorem dL_acts_1 : decode cL_acts 1 = .ok (.ifCond .ne 14, 3) := by decide +kernel
theorem dL_acts_4 : decode cL_acts 4 = .ok (.aload_n 0, 1) := by decide +kernel
theorem dL_acts_5 : decode cL_acts 5 = .ok (.iload_n 2, 1) := by decide +kernel
theorem dL_acts_6 : decode cL_acts 6 = .ok (.iload_n 3, 1) := by decide +kernel
theorem dL_acts_7 : decode cL_acts 7 = .ok (.iload 4, 2) := by decide +kernel
theorem dL_acts_9 : decode cL_acts 9 = .ok (.invokevirtual 28, 3) := by decide +kernel
theorem dL_acts_12 : decode cL_acts 12 = .ok (.goto 108, 3) := by decide +kernel
theorem dL_acts_15 : decode cL_acts 15 = .ok (.iload_n 1, 1) := by decide +kernel
theorem dL_acts_16 : decode cL_acts 16 = .ok (.iconst 1, 1) := by decide +kernel
theorem dL_acts_17 : decode cL_acts 17 = .ok (.if_icmp .ne 12, 3) := by decide +kernel
theorem dL_acts_20 : decode cL_acts 20 = .ok (.aload_n 0, 1) := by decide +kernel
theorem dL_acts_21 : decode cL_acts 21 = .ok (.iload_n 2, 1) := by decide +kernel
theorem dL_acts_22 : decode cL_acts 22 = .ok (.iload_n 3, 1) := by decide +kernel
theorem dL_acts_23 : decode cL_acts 23 = .ok (.invokevirtual 32, 3) := by decide +kernel
theorem dL_acts_26 : decode cL_acts 26 = .ok (.goto 94, 3) := by decide +kernel
theorem dL_acts_29 : decode cL_acts 29 = .ok (.iload_n 1, 1) := by decide +kernel
theorem dL_acts_30 : decode cL_acts 30 = .ok (.iconst 2, 1) := by decide +kernel
theorem dL_acts_31 : decode cL_acts 31 = .ok (.if_icmp .ne 16, 3) := by decide +kernel
theorem dL_acts_34 : decode cL_acts 34 = .ok (.aload_n 0, 1) := by decide +kernel
theorem dL_acts_35 : decode cL_acts 35 = .ok (.iload_n 2, 1) := by decide +kernel
theorem dL_acts_36 : decode cL_acts 36 = .ok (.iload_n 3, 1) := by decide +kernel
theorem dL_acts_37 : decode cL_acts 37 = .ok (.iload 4, 2) := by decide +kernel
theorem dL_acts_39 : decode cL_acts 39 = .ok (.iload 5, 2) := by decide +kernel
theorem dL_acts_41 : decode cL_acts 41 = .ok (.invokevirtual 36, 3) := by decide +kernel
theorem dL_acts_44 : decode cL_acts 44 = .ok (.goto 76, 3) := by decide +kernel
theorem dL_acts_47 : decode cL_acts 47 = .ok (.iload_n 1, 1) := by decide +kernel
theorem dL_acts_48 : decode cL_acts 48 = .ok (.iconst 3, 1) := by decide +kernel
theorem dL_acts_49 : decode cL_acts 49 = .ok (.if_icmp .ne 11, 3) := by decide +kernel
theorem dL_acts_52 : decode cL_acts 52 = .ok (.aload_n 0, 1) := by decide +kernel
theorem dL_acts_53 : decode cL_acts 53 = .ok (.iload_n 2, 1) := by decide +kernel
theorem dL_acts_54 : decode cL_acts 54 = .ok (.invokevirtual 40, 3) := by decide +kernel
theorem dL_acts_57 : decode cL_acts 57 = .ok (.goto 63, 3) := by decide +kernel
theorem dL_acts_60 : decode cL_acts 60 = .ok (.iload_n 1, 1) := by decide +kernel
theorem dL_acts_61 : decode cL_acts 61 = .ok (.iconst 4, 1) := by decide +kernel
theorem dL_acts_62 : decode cL_acts 62 = .ok (.if_icmp .ne 12, 3) := by decide +kernel
theorem dL_acts_65 : decode cL_acts 65 = .ok (.aload_n 0, 1) := by decide +kernel
theorem dL_acts_66 : decode cL_acts 66 = .ok (.iload_n 2, 1) := by decide +kernel
theorem dL_acts_67 : decode cL_acts 67 = .ok (.iload_n 3, 1) := by decide +kernel
theorem dL_acts_68 : decode cL_acts 68 = .ok (.invokevirtual 44, 3) := by decide +kernel
theorem dL_acts_71 : decode cL_acts 71 = .ok (.goto 49, 3) := by decide +kernel
theorem dL_acts_74 : decode cL_acts 74 = .ok (.iload_n 1, 1) := by decide +kernel
theorem dL_acts_75 : decode cL_acts 75 = .ok (.iconst 5, 1) := by decide +kernel
theorem dL_acts_76 : decode cL_acts 76 = .ok (.if_icmp .ne 11, 3) := by decide +kernel
theorem dL_acts_79 : decode cL_acts 79 = .ok (.aload_n 0, 1) := by decide +kernel
theorem dL_acts_80 : decode cL_acts 80 = .ok (.iload_n 2, 1) := by decide +kernel
theorem dL_acts_81 : decode cL_acts 81 = .ok (.invokevirtual 47, 3) := by decide +kernel
theorem dL_acts_84 : decode cL_acts 84 = .ok (.goto 36, 3) := by decide +kernel
theorem dL_acts_87 : decode cL_acts 87 = .ok (.iload_n 1, 1) := by decide +kernel
theorem dL_acts_88 : decode cL_acts 88 = .ok (.bipush 6, 2) := by decide +kernel
theorem dL_acts_90 : decode cL_acts 90 = .ok (.if_icmp .ne 24, 3) := by decide +kernel
theorem dL_acts_93 : decode cL_acts 93 = .ok (.aload_n 0, 1) := by decide +kernel
theorem dL_acts_94 : decode cL_acts 94 = .ok (.iload_n 2, 1) := by decide +kernel
theorem dL_acts_95 : decode cL_acts 95 = .ok (.iload_n 3, 1) := by decide +kernel
theorem dL_acts_96 : decode cL_acts 96 = .ok (.iload 4, 2) := by decide +kernel
theorem dL_acts_98 : decode cL_acts 98 = .ok (.iload 5, 2) := by decide +kernel
theorem dL_acts_100 : decode cL_acts 100 = .ok (.invokevirtual 50, 3) := by decide +kernel
theorem dL_acts_103 : decode cL_acts 103 = .ok (.ifCond .eq 7, 3) := by decide +kernel
theorem dL_acts_106 : decode cL_acts 106 = .ok (.iconst 1, 1) := by decide +kernel
theorem dL_acts_107 : decode cL_acts 107 = .ok (.goto 13, 3) := by decide +kernel
theorem dL_acts_110 : decode cL_acts 110 = .ok (.iconst 0, 1) := by decide +kernel
theorem dL_acts_111 : decode cL_acts 111 = .ok (.goto 9, 3) := by decide +kernel
theorem dL_acts_114 : decode cL_acts 114 = .ok (.aload_n 0, 1) := by decide +kernel
theorem dL_acts_115 : decode cL_acts 115 = .ok (.iload_n 1, 1) := by decide +kernel
theorem dL_acts_116 : decode cL_acts 116 = .ok (.iload_n 2, 1) := by decide +kernel
theorem dL_acts_117 : decode cL_acts 117 = .ok (.invokestatic 54, 3) := by decide +kernel
theorem dL_acts_120 : decode cL_acts 120 = .ok (.ireturn, 1) := by decide +kernel
theorem dL_acts_121 : decode cL_acts 121 = .ok (.astore 6, 2) := by decide +kernel
theorem dL_acts_123 : decode cL_acts 123 = .ok (.ldc 17, 2) := by decide +kernel
theorem dL_acts_125 : decode cL_acts 125 = .ok (.ireturn, 1) := by decide +kernel
theorem dL_acts_126 : decode cL_acts 126 = .ok (.astore 6, 2) := by decide +kernel
theorem dL_acts_128 : decode cL_acts 128 = .ok (.ldc 20, 2) := by decide +kernel
theorem dL_acts_130 : decode cL_acts 130 = .ok (.ireturn, 1) := by decide +kernel
theorem dL_acts_131 : decode cL_acts 131 = .ok (.astore 6, 2) := by decide +kernel
theorem dL_acts_133 : decode cL_acts 133 = .ok (.ldc 23, 2) := by decide +kernel
theorem dL_acts_135 : decode cL_acts 135 = .ok (.ireturn, 1) := by decide +kernel
set_option maxRecDepth 20000 in
theorem ggL_starts_X2_start : GoodIn wsL_starts wsX2_start := goodIn_ca (goodIn_ca (goodIn_r _ [5, 6, 7, 8, 9, 10, 11, 12, 13, 14, 4, 15, 16, 17, 18, 60, 61, 62, 63, 64, 65, 66, 67, 68, 69, 70, 71, 72, 73, 74, 75, 76] (by decide +kernel) (by decide +kernel)) (goodIn_sub (fun _ h => List.mem_cons_of_mem _ (List.mem_append_left _ (List.mem_append_right _ h))) (by decide +kernel))) (goodIn_sub (fun _ h => List.mem_cons_of_mem _ (List.mem_append_right _ h)) (by decide +kernel))
set_option maxRecDepth 20000 in
theorem gL_starts_X2_start : GoodIn wsL_starts (wsV RL 60 RX2 yX2_start wsX2_start) := goodIn_app (goodIn_of _ (by decide +kernel)) ggL_starts_X2_start
set_option maxRecDepth 20000 in
theorem ggL_starts_X2_interrupt : GoodIn wsL_starts wsX2_interrupt := goodIn_ca (goodIn_ca (goodIn_r _ [22, 6, 7, 12, 13, 14, 4, 15, 16, 17, 18, 23, 24, 25, 26, 27, 28, 29, 30, 31, 32, 10, 33, 11, 34, 35, 36, 37, 38, 8, 39, 40, 41, 42, 43, 44, 45, 46, 47, 48, 49, 50, 51, 52, 53, 54, 55, 56, 57, 58, 59, 71, 72, 73, 74, 75, 76, 60, 61, 62, 63, 64, 65, 66, 67, 68, 69, 70] (by decide +kernel) (by decide +kernel)) (goodIn_sub (fun _ h => List.mem_cons_of_mem _ (List.mem_append_left _ (List.mem_append_right _ h))) (by decide +kernel))) (goodIn_sub (fun _ h => List.mem_cons_of_mem _ (List.mem_append_right _ h)) (by decide +kernel))
set_option maxRecDepth 20000 in
theorem gL_starts_X2_interrupt : GoodIn wsL_starts (wsV RL 64 RX2 yX2_interrupt wsX2_interrupt) := goodIn_app (goodIn_of _ (by decide +kernel)) ggL_starts_X2_interrupt
theorem dL_starts_0 : decode cL_starts 0 = .ok (.iload_n 1, 1) := by decide +kernel
theorem dL_starts_1 : decode cL_starts 1 = .ok (.bipush 7, 2) := by decide +kernel
theorem dL_starts_3 : decode cL_starts 3 = .ok (.if_icmp .ne 11, 3) := by decide +kernel
theorem dL_starts_6 : decode cL_starts 6 = .ok (.aload_n 0, 1) := by decide +kernel
theorem dL_starts_7 : decode cL_starts 7 = .ok (.iload_n 2, 1) := by decide +kernel
theorem dL_starts_8 : decode cL_starts 8 = .ok (.invokevirtual 60, 3) := by decide +kernel
theorem dL_starts_11 : decode cL_starts 11 = .ok (.goto 8, 3) := by decide +kernel
theorem dL_starts_14 : decode cL_starts 14 = .ok (.aload_n 0, 1) := by decide +kernel
theorem dL_starts_15 : decode cL_starts 15 = .ok (.iload_n 2, 1) := by decide +kernel
theorem dL_starts_16 : decode cL_starts 16 = .ok (.invokevirtual 64, 3) := by decide +kernel
theorem dL_starts_19 : decode cL_starts 19 = .ok (.iconst 0, 1) := by decide +kernel
theorem dL_starts_20 : decode cL_starts 20 = .ok (.ireturn, 1) := by decide +kernel
theorem dL_bucket_0 : decode cL_bucket 0 = .ok (.iload_n 0, 1) := by decide +kernel
theorem dL_bucket_1 : decode cL_bucket 1 = .ok (.iload_n 0, 1) := by decide +kernel
theorem dL_bucket_2 : decode cL_bucket 2 = .ok (.iconst 4, 1) := by decide +kernel
theorem dL_bucket_3 : decode cL_bucket 3 = .ok (.idiv, 1) := by decide +kernel
theorem dL_bucket_4 : decode cL_bucket 4 = .ok (.iadd, 1) := by decide +kernel
theorem dL_bucket_5 : decode cL_bucket 5 = .ok (.iconst 4, 1) := by decide +kernel
theorem dL_bucket_6 : decode cL_bucket 6 = .ok (.irem, 1) := by decide +kernel
theorem dL_bucket_7 : decode cL_bucket 7 = .ok (.ireturn, 1) := by decide +kernel
set_option maxRecDepth 20000 in
theorem ggL_threads_X2_now : GoodIn wsL_threads wsX2_now := goodIn_r _ [11, 12, 81, 82, 83, 84, 85, 86] (by decide +kernel) (by decide +kernel)
set_option maxRecDepth 20000 in
theorem gL_threads_X2_now : GoodIn wsL_threads (wsV RL 67 RX2 yX2_now wsX2_now) := goodIn_app (goodIn_of _ (by decide +kernel)) ggL_threads_X2_now
set_option maxRecDepth 20000 in
theorem ggL_threads_X2_stateOf : GoodIn wsL_threads wsX2_stateOf := goodIn_ca (goodIn_r _ [16, 17, 18, 19, 20, 10, 21, 22, 23, 24, 87, 88, 89, 90, 91, 92, 93, 94, 95, 96, 97, 81, 82, 83, 84, 85, 86] (by decide +kernel) (by decide +kernel)) (goodIn_sub (fun _ h => List.mem_cons_of_mem _ (List.mem_append_right _ h)) (by decide +kernel))
set_option maxRecDepth 20000 in
theorem gL_threads_X2_stateOf : GoodIn wsL_threads (wsV RL 73 RX2 yX2_stateOf wsX2_stateOf) := goodIn_app (goodIn_of _ (by decide +kernel)) ggL_threads_X2_stateOf
set_option maxRecDepth 20000 in
theorem ggL_threads_X2_addressOf : GoodIn wsL_threads wsX2_addressOf := goodIn_ca (goodIn_r _ [28, 29, 18, 19, 20, 10, 21, 22, 23, 24, 87, 88, 89, 90, 91, 92, 93, 94, 95, 96, 97, 81, 82, 83, 84, 85, 86] (by decide +kernel) (by decide +kernel)) (goodIn_sub (fun _ h => List.mem_cons_of_mem _ (List.mem_append_right _ h)) (by decide +kernel))
set_option maxRecDepth 20000 in
theorem gL_threads_X2_addressOf : GoodIn wsL_threads (wsV RL 78 RX2 yX2_addressOf wsX2_addressOf) := goodIn_app (goodIn_of _ (by decide +kernel)) ggL_threads_X2_addressOf
set_option maxRecDepth 20000 in
theorem ggL_threads_X2_resultOf : GoodIn wsL_threads wsX2_resultOf := goodIn_ca (goodIn_r _ [33, 34, 18, 19, 20, 10, 21, 22, 23, 24, 87, 88, 89, 90, 91, 92, 93, 94, 95, 96, 97, 81, 82, 83, 84, 85, 86] (by decide +kernel) (by decide +kernel)) (goodIn_sub (fun _ h => List.mem_cons_of_mem _ (List.mem_append_right _ h)) (by decide +kernel))
set_option maxRecDepth 20000 in
theorem gL_threads_X2_resultOf : GoodIn wsL_threads (wsV RL 83 RX2 yX2_resultOf wsX2_resultOf) := goodIn_app (goodIn_of _ (by decide +kernel)) ggL_threads_X2_resultOf
set_option maxRecDepth 20000 in
theorem ggL_threads_X2_serialOf : GoodIn wsL_threads wsX2_serialOf := goodIn_ca (goodIn_r _ [38, 39, 18, 19, 20, 10, 21, 22, 23, 24, 87, 88, 89, 90, 91, 92, 93, 94, 95, 96, 97, 81, 82, 83, 84, 85, 86] (by decide +kernel) (by decide +kernel)) (goodIn_sub (fun _ h => List.mem_cons_of_mem _ (List.mem_append_right _ h)) (by decide +kernel))
set_option maxRecDepth 20000 in
theorem gL_threads_X2_serialOf : GoodIn wsL_threads (wsV RL 88 RX2 yX2_serialOf wsX2_serialOf) := goodIn_app (goodIn_of _ (by decide +kernel)) ggL_threads_X2_serialOf
set_option maxRecDepth 20000 in
theorem ggL_threads_X2_locks : GoodIn wsL_threads wsX2_locks := goodIn_ca (goodIn_r _ [43, 44, 45, 18, 19, 20, 10, 21, 22, 23, 24, 87, 88, 89, 90, 91, 92, 93, 94, 95, 96, 97, 98, 99, 81, 82, 83, 84, 85, 86] (by decide +kernel) (by decide +kernel)) (goodIn_sub (fun _ h => List.mem_cons_of_mem _ (List.mem_append_right _ h)) (by decide +kernel))
set_option maxRecDepth 20000 in
theorem gL_threads_X2_locks : GoodIn wsL_threads (wsV RL 91 RX2 yX2_locks wsX2_locks) := goodIn_app (goodIn_of _ (by decide +kernel)) ggL_threads_X2_locks
set_option maxRecDepth 20000 in
theorem ggL_threads_X2_lockAt : GoodIn wsL_threads wsX2_lockAt := goodIn_ca (goodIn_r _ [49, 22, 23, 44, 45, 18, 19, 20, 10, 21, 24, 50, 51, 52, 53, 54, 55, 56, 87, 88, 89, 90, 91, 92, 93, 94, 95, 96, 97, 98, 99, 81, 82, 83, 84, 85, 86] (by decide +kernel) (by decide +kernel)) (goodIn_sub (fun _ h => List.mem_cons_of_mem _ (List.mem_append_right _ h)) (by decide +kernel))
set_option maxRecDepth 20000 in
theorem gL_threads_X2_lockAt : GoodIn wsL_threads (wsV RL 94 RX2 yX2_lockAt wsX2_lockAt) := goodIn_app (goodIn_of _ (by decide +kernel)) ggL_threads_X2_lockAt
set_option maxRecDepth 20000 in
theorem ggL_threads_X2_queueAt : GoodIn wsL_threads wsX2_queueAt := goodIn_ca (goodIn_r _ [60, 22, 23, 24, 29, 61, 62, 63, 64, 65, 66, 67, 68, 69, 10, 70, 71, 72, 73, 74, 75, 76, 77, 78, 79, 80, 81, 82, 83, 84, 85, 86, 87, 88, 89, 90, 91, 92, 93, 94, 95, 96, 97] (by decide +kernel) (by decide +kernel)) (goodIn_sub (fun _ h => List.mem_cons_of_mem _ (List.mem_append_right _ h)) (by decide +kernel))
set_option maxRecDepth 20000 in
theorem gL_threads_X2_queueAt : GoodIn wsL_threads (wsV RL 97 RX2 yX2_queueAt wsX2_queueAt) := goodIn_app (goodIn_of _ (by decide +kernel)) ggL_threads_X2_queueAt
theorem dL_threads_0 : decode cL_threads 0 = .ok (.aload_n 0, 1) := by decide +kernel
theorem dL_threads_1 : decode cL_threads 1 = .ok (.invokevirtual 67, 3) := by decide +kernel
theorem dL_threads_4 : decode cL_threads 4 = .ok (.i2l, 1) := by decide +kernel
theorem dL_threads_5 : decode cL_threads 5 = .ok (.lstore_n 2, 1) := by decide +kernel
theorem dL_threads_6 : decode cL_threads 6 = .ok (.iconst 0, 1) := by decide +kernel
theorem dL_threads_7 : decode cL_threads 7 = .ok (.istore 4, 2) := by decide +kernel
theorem dL_threads_9 : decode cL_threads 9 = .ok (.iload 4, 2) := by decide +kernel
theorem dL_threads_11 : decode cL_threads 11 = .ok (.bipush 8, 2) := by decide +kernel
theorem dL_threads_13 : decode cL_threads 13 = .ok (.if_icmp .ge 101, 3) := by decide +kernel
theorem dL_threads_16 : decode cL_threads 16 = .ok (.iload 4, 2) := by decide +kernel
theorem dL_threads_18 : decode cL_threads 18 = .ok (.iload_n 1, 1) := by decide +kernel
theorem dL_threads_19 : decode cL_threads 19 = .ok (.if_icmp .eq 89, 3) := by decide +kernel
theorem dL_threads_22 : decode cL_threads 22 = .ok (.lload_n 2, 1) := by decide +kernel
theorem dL_threads_23 : decode cL_threads 23 = .ok (.ldc2_w 71, 3) := by decide +kernel
theorem dL_threads_26 : decode cL_threads 26 = .ok (.lmul, 1) := by decide +kernel
theorem dL_threads_27 : decode cL_threads 27 = .ok (.aload_n 0, 1) := by decide +kernel
theorem dL_threads_28 : decode cL_threads 28 = .ok (.iload 4, 2) := by decide +kernel
theorem dL_threads_30 : decode cL_threads 30 = .ok (.invokevirtual 73, 3) := by decide +kernel
theorem dL_threads_33 : decode cL_threads 33 = .ok (.i2l, 1) := by decide +kernel
theorem dL_threads_34 : decode cL_threads 34 = .ok (.ladd, 1) := by decide +kernel
theorem dL_threads_35 : decode cL_threads 35 = .ok (.ldc2_w 76, 3) := by decide +kernel
theorem dL_threads_38 : decode cL_threads 38 = .ok (.lmul, 1) := by decide +kernel
theorem dL_threads_39 : decode cL_threads 39 = .ok (.aload_n 0, 1) := by decide +kernel
theorem dL_threads_40 : decode cL_threads 40 = .ok (.iload 4, 2) := by decide +kernel
theorem dL_threads_42 : decode cL_threads 42 = .ok (.invokevirtual 78, 3) := by decide +kernel
theorem dL_threads_45 : decode cL_threads 45 = .ok (.i2l, 1) := by decide +kernel
theorem dL_threads_46 : decode cL_threads 46 = .ok (.ladd, 1) := by decide +kernel
theorem dL_threads_47 : decode cL_threads 47 = .ok (.ldc2_w 81, 3) := by decide +kernel
theorem dL_threads_50 : decode cL_threads 50 = .ok (.lmul, 1) := by decide +kernel
theorem dL_threads_51 : decode cL_threads 51 = .ok (.aload_n 0, 1) := by decide +kernel
theorem dL_threads_52 : decode cL_threads 52 = .ok (.iload 4, 2) := by decide +kernel
theorem dL_threads_54 : decode cL_threads 54 = .ok (.invokevirtual 83, 3) := by decide +kernel
theorem dL_threads_57 : decode cL_threads 57 = .ok (.i2l, 1) := by decide +kernel
theorem dL_threads_58 : decode cL_threads 58 = .ok (.ladd, 1) := by decide +kernel
theorem dL_threads_59 : decode cL_threads 59 = .ok (.ldc2_w 86, 3) := by decide +kernel
theorem dL_threads_62 : decode cL_threads 62 = .ok (.lmul, 1) := by decide +kernel
theorem dL_threads_63 : decode cL_threads 63 = .ok (.aload_n 0, 1) := by decide +kernel
theorem dL_threads_64 : decode cL_threads 64 = .ok (.iload 4, 2) := by decide +kernel
theorem dL_threads_66 : decode cL_threads 66 = .ok (.invokevirtual 88, 3) := by decide +kernel
theorem dL_threads_69 : decode cL_threads 69 = .ok (.i2l, 1) := by decide +kernel
theorem dL_threads_70 : decode cL_threads 70 = .ok (.ladd, 1) := by decide +kernel
theorem dL_threads_71 : decode cL_threads 71 = .ok (.lstore_n 2, 1) := by decide +kernel
theorem dL_threads_72 : decode cL_threads 72 = .ok (.iconst 0, 1) := by decide +kernel
theorem dL_threads_73 : decode cL_threads 73 = .ok (.istore 5, 2) := by decide +kernel
theorem dL_threads_75 : decode cL_threads 75 = .ok (.iload 5, 2) := by decide +kernel
theorem dL_threads_77 : decode cL_threads 77 = .ok (.aload_n 0, 1) := by decide +kernel
theorem dL_threads_78 : decode cL_threads 78 = .ok (.iload 4, 2) := by decide +kernel
theorem dL_threads_80 : decode cL_threads 80 = .ok (.invokevirtual 91, 3) := by decide +kernel
theorem dL_threads_83 : decode cL_threads 83 = .ok (.if_icmp .ge 25, 3) := by decide +kernel
theorem dL_threads_86 : decode cL_threads 86 = .ok (.lload_n 2, 1) := by decide +kernel
theorem dL_threads_87 : decode cL_threads 87 = .ok (.ldc2_w 76, 3) := by decide +kernel
theorem dL_threads_90 : decode cL_threads 90 = .ok (.lmul, 1) := by decide +kernel
theorem dL_threads_91 : decode cL_threads 91 = .ok (.aload_n 0, 1) := by decide +kernel
theorem dL_threads_92 : decode cL_threads 92 = .ok (.iload 4, 2) := by decide +kernel
theorem dL_threads_94 : decode cL_threads 94 = .ok (.iload 5, 2) := by decide +kernel
theorem dL_threads_96 : decode cL_threads 96 = .ok (.invokevirtual 94, 3) := by decide +kernel
theorem dL_threads_99 : decode cL_threads 99 = .ok (.i2l, 1) := by decide +kernel
theorem dL_threads_100 : decode cL_threads 100 = .ok (.ladd, 1) := by decide +kernel
theorem dL_threads_101 : decode cL_threads 101 = .ok (.lstore_n 2, 1) := by decide +kernel
theorem dL_threads_102 : decode cL_threads 102 = .ok (.iinc 5 1, 3) := by decide +kernel
theorem dL_threads_105 : decode cL_threads 105 = .ok (.goto (-30), 3) := by decide +kernel
theorem dL_threads_108 : decode cL_threads 108 = .ok (.iinc 4 1, 3) := by decide +kernel
theorem dL_threads_111 : decode cL_threads 111 = .ok (.goto (-102), 3) := by decide +kernel
theorem dL_threads_114 : decode cL_threads 114 = .ok (.iconst 0, 1) := by decide +kernel
theorem dL_threads_115 : decode cL_threads 115 = .ok (.istore 4, 2) := by decide +kernel
theorem dL_threads_117 : decode cL_threads 117 = .ok (.iload 4, 2) := by decide +kernel
theorem dL_threads_119 : decode cL_threads 119 = .ok (.iconst 4, 1) := by decide +kernel
theorem dL_threads_120 : decode cL_threads 120 = .ok (.if_icmp .ge 70, 3) := by decide +kernel
theorem dL_threads_123 : decode cL_threads 123 = .ok (.iconst 0, 1) := by decide +kernel
theorem dL_threads_124 : decode cL_threads 124 = .ok (.istore 5, 2) := by decide +kernel
theorem dL_threads_126 : decode cL_threads 126 = .ok (.aload_n 0, 1) := by decide +kernel
theorem dL_threads_127 : decode cL_threads 127 = .ok (.iload 4, 2) := by decide +kernel
theorem dL_threads_129 : decode cL_threads 129 = .ok (.iload 5, 2) := by decide +kernel
theorem dL_threads_131 : decode cL_threads 131 = .ok (.invokevirtual 97, 3) := by decide +kernel
theorem dL_threads_134 : decode cL_threads 134 = .ok (.iconst (-1), 1) := by decide +kernel
theorem dL_threads_135 : decode cL_threads 135 = .ok (.if_icmp .eq 49, 3) := by decide +kernel
theorem dL_threads_138 : decode cL_threads 138 = .ok (.aload_n 0, 1) := by decide +kernel
theorem dL_threads_139 : decode cL_threads 139 = .ok (.iload 4, 2) := by decide +kernel
theorem dL_threads_141 : decode cL_threads 141 = .ok (.iload 5, 2) := by decide +kernel
theorem dL_threads_143 : decode cL_threads 143 = .ok (.invokevirtual 97, 3) := by decide +kernel
theorem dL_threads_146 : decode cL_threads 146 = .ok (.iload_n 1, 1) := by decide +kernel
theorem dL_threads_147 : decode cL_threads 147 = .ok (.if_icmp .ne 7, 3) := by decide +kernel
theorem dL_threads_150 : decode cL_threads 150 = .ok (.lload_n 2, 1) := by decide +kernel
theorem dL_threads_151 : decode cL_threads 151 = .ok (.goto 26, 3) := by decide +kernel
theorem dL_threads_154 : decode cL_threads 154 = .ok (.lload_n 2, 1) := by decide +kernel
theorem dL_threads_155 : decode cL_threads 155 = .ok (.ldc2_w 100, 3) := by decide +kernel
theorem dL_threads_158 : decode cL_threads 158 = .ok (.lmul, 1) := by decide +kernel
theorem dL_threads_159 : decode cL_threads 159 = .ok (.ldc2_w 102, 3) := by decide +kernel
theorem dL_threads_162 : decode cL_threads 162 = .ok (.iload 4, 2) := by decide +kernel
theorem dL_threads_164 : decode cL_threads 164 = .ok (.i2l, 1) := by decide +kernel
theorem dL_threads_165 : decode cL_threads 165 = .ok (.lmul, 1) := by decide +kernel
theorem dL_threads_166 : decode cL_threads 166 = .ok (.ladd, 1) := by decide +kernel
theorem dL_threads_167 : decode cL_threads 167 = .ok (.aload_n 0, 1) := by decide +kernel
theorem dL_threads_168 : decode cL_threads 168 = .ok (.iload 4, 2) := by decide +kernel
theorem dL_threads_170 : decode cL_threads 170 = .ok (.iload 5, 2) := by decide +kernel
theorem dL_threads_172 : decode cL_threads 172 = .ok (.invokevirtual 97, 3) := by decide +kernel
theorem dL_threads_175 : decode cL_threads 175 = .ok (.i2l, 1) := by decide +kernel
theorem dL_threads_176 : decode cL_threads 176 = .ok (.ladd, 1) := by decide +kernel
theorem dL_threads_177 : decode cL_threads 177 = .ok (.lstore_n 2, 1) := by decide +kernel
theorem dL_threads_178 : decode cL_threads 178 = .ok (.iinc 5 1, 3) := by decide +kernel
theorem dL_threads_181 : decode cL_threads 181 = .ok (.goto (-55), 3) := by decide +kernel
theorem dL_threads_184 : decode cL_threads 184 = .ok (.iinc 4 1, 3) := by decide +kernel
theorem dL_threads_187 : decode cL_threads 187 = .ok (.goto (-70), 3) := by decide +kernel
theorem dL_threads_190 : decode cL_threads 190 = .ok (.lload_n 2, 1) := by decide +kernel
theorem dL_threads_191 : decode cL_threads 191 = .ok (.lreturn, 1) := by decide +kernel
set_option maxRecDepth 20000 in
theorem ggL_words_X2_word : GoodIn wsL_words wsX2_word := goodIn_ca (goodIn_r _ [6, 7, 8, 9, 5, 10, 11, 12, 13, 14, 15, 16, 17, 18, 19, 20, 21] (by decide +kernel) (by decide +kernel)) (goodIn_sub (fun _ h => List.mem_cons_of_mem _ (List.mem_append_right _ h)) (by decide +kernel))
set_option maxRecDepth 20000 in
theorem gL_words_X2_word : GoodIn wsL_words (wsV RL 106 RX2 yX2_word wsX2_word) := goodIn_app (goodIn_of _ (by decide +kernel)) ggL_words_X2_word
theorem dL_words_0 : decode cL_words 0 = .ok (.lconst 1, 1) := by decide +kernel
theorem dL_words_1 : decode cL_words 1 = .ok (.lstore_n 2, 1) := by decide +kernel
theorem dL_words_2 : decode cL_words 2 = .ok (.iconst 0, 1) := by decide +kernel
theorem dL_words_3 : decode cL_words 3 = .ok (.istore 4, 2) := by decide +kernel
theorem dL_words_5 : decode cL_words 5 = .ok (.iload 4, 2) := by decide +kernel
theorem dL_words_7 : decode cL_words 7 = .ok (.bipush 16, 2) := by decide +kernel
theorem dL_words_9 : decode cL_words 9 = .ok (.if_icmp .ge 33, 3) := by decide +kernel
theorem dL_words_12 : decode cL_words 12 = .ok (.iload 4, 2) := by decide +kernel
theorem dL_words_14 : decode cL_words 14 = .ok (.iload_n 1, 1) := by decide +kernel
theorem dL_words_15 : decode cL_words 15 = .ok (.if_icmp .ne 7, 3) := by decide +kernel
theorem dL_words_18 : decode cL_words 18 = .ok (.lload_n 2, 1) := by decide +kernel
theorem dL_words_19 : decode cL_words 19 = .ok (.goto 16, 3) := by decide +kernel
theorem dL_words_22 : decode cL_words 22 = .ok (.lload_n 2, 1) := by decide +kernel
theorem dL_words_23 : decode cL_words 23 = .ok (.ldc2_w 104, 3) := by decide +kernel
theorem dL_words_26 : decode cL_words 26 = .ok (.lmul, 1) := by decide +kernel
theorem dL_words_27 : decode cL_words 27 = .ok (.aload_n 0, 1) := by decide +kernel
theorem dL_words_28 : decode cL_words 28 = .ok (.iload 4, 2) := by decide +kernel
theorem dL_words_30 : decode cL_words 30 = .ok (.invokevirtual 106, 3) := by decide +kernel
theorem dL_words_33 : decode cL_words 33 = .ok (.i2l, 1) := by decide +kernel
theorem dL_words_34 : decode cL_words 34 = .ok (.ladd, 1) := by decide +kernel
theorem dL_words_35 : decode cL_words 35 = .ok (.lstore_n 2, 1) := by decide +kernel
theorem dL_words_36 : decode cL_words 36 = .ok (.iinc 4 1, 3) := by decide +kernel
theorem dL_words_39 : decode cL_words 39 = .ok (.goto (-34), 3) := by decide +kernel
theorem dL_words_42 : decode cL_words 42 = .ok (.lload_n 2, 1) := by decide +kernel
theorem dL_words_43 : decode cL_words 43 = .ok (.lreturn, 1) := by decide +kernel
set_option maxRecDepth 20000 in
theorem ggL_last_X2_serialOf : GoodIn wsL_last wsX2_serialOf := goodIn_ca (goodIn_r _ [5, 6, 7, 8, 9, 4, 10, 11, 12, 13, 14, 15, 16, 17, 18, 19, 20, 21, 22, 23, 24, 25, 26, 27, 28, 29, 30] (by decide +kernel) (by decide +kernel)) (goodIn_sub (fun _ h => List.mem_cons_of_mem _ (List.mem_append_right _ h)) (by decide +kernel))
set_option maxRecDepth 20000 in
theorem gL_last_X2_serialOf : GoodIn wsL_last (wsV RL 88 RX2 yX2_serialOf wsX2_serialOf) := goodIn_app (goodIn_of _ (by decide +kernel)) ggL_last_X2_serialOf
theorem dL_last_0 : decode cL_last 0 = .ok (.iconst 0, 1) := by decide +kernel
theorem dL_last_1 : decode cL_last 1 = .ok (.istore_n 1, 1) := by decide +kernel
theorem dL_last_2 : decode cL_last 2 = .ok (.iconst 0, 1) := by decide +kernel
theorem dL_last_3 : decode cL_last 3 = .ok (.istore_n 2, 1) := by decide +kernel
theorem dL_last_4 : decode cL_last 4 = .ok (.iload_n 2, 1) := by decide +kernel
theorem dL_last_5 : decode cL_last 5 = .ok (.bipush 8, 2) := by decide +kernel
theorem dL_last_7 : decode cL_last 7 = .ok (.if_icmp .ge 28, 3) := by decide +kernel
theorem dL_last_10 : decode cL_last 10 = .ok (.aload_n 0, 1) := by decide +kernel
theorem dL_last_11 : decode cL_last 11 = .ok (.iload_n 2, 1) := by decide +kernel
theorem dL_last_12 : decode cL_last 12 = .ok (.invokevirtual 88, 3) := by decide +kernel
theorem dL_last_15 : decode cL_last 15 = .ok (.iload_n 1, 1) := by decide +kernel
theorem dL_last_16 : decode cL_last 16 = .ok (.if_icmp .le 11, 3) := by decide +kernel
theorem dL_last_19 : decode cL_last 19 = .ok (.aload_n 0, 1) := by decide +kernel
theorem dL_last_20 : decode cL_last 20 = .ok (.iload_n 2, 1) := by decide +kernel
theorem dL_last_21 : decode cL_last 21 = .ok (.invokevirtual 88, 3) := by decide +kernel
theorem dL_last_24 : decode cL_last 24 = .ok (.goto 4, 3) := by decide +kernel
theorem dL_last_27 : decode cL_last 27 = .ok (.iload_n 1, 1) := by decide +kernel
theorem dL_last_28 : decode cL_last 28 = .ok (.istore_n 1, 1) := by decide +kernel
theorem dL_last_29 : decode cL_last 29 = .ok (.iinc 2 1, 3) := by decide +kernel
theorem dL_last_32 : decode cL_last 32 = .ok (.goto (-28), 3) := by decide +kernel
theorem dL_last_35 : decode cL_last 35 = .ok (.iload_n 1, 1) := by decide +kernel
theorem dL_last_36 : decode cL_last 36 = .ok (.ireturn, 1) := by decide +kernel
