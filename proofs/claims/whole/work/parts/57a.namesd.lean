set_option maxRecDepth 20000 in
theorem ggL_store_X2_store : GoodIn wsL_store wsX2_store := goodIn_ca (goodIn_ca (goodIn_r _ [7, 8, 9, 10, 11, 6, 12, 13, 14, 15, 16, 17, 18, 19, 20, 21, 22, 23, 24, 25, 26, 27, 28, 29, 30, 31, 32, 33, 34, 35, 36, 37, 38, 39, 40, 41, 42, 43, 44] (by decide +kernel) (by decide +kernel)) (goodIn_sub (fun _ h => List.mem_cons_of_mem _ (List.mem_append_left _ (List.mem_append_right _ h))) (by decide +kernel))) (goodIn_sub (fun _ h => List.mem_cons_of_mem _ (List.mem_append_right _ h)) (by decide +kernel))
set_option maxRecDepth 20000 in
theorem gL_store_X2_store : GoodIn wsL_store (wsV RL 7 RX2 yX2_store wsX2_store) := goodIn_app (goodIn_of _ (by decide +kernel)) ggL_store_X2_store
theorem dL_store_0 : decode cL_store 0 = .ok (.aload 4, 2) := by decide +kernel
theorem dL_store_2 : decode cL_store 2 = .ok (.iconst 0, 1) := by decide +kernel
theorem dL_store_3 : decode cL_store 3 = .ok (.aload_n 0, 1) := by decide +kernel
theorem dL_store_4 : decode cL_store 4 = .ok (.iload_n 1, 1) := by decide +kernel
theorem dL_store_5 : decode cL_store 5 = .ok (.iload_n 2, 1) := by decide +kernel
theorem dL_store_6 : decode cL_store 6 = .ok (.iload_n 3, 1) := by decide +kernel
theorem dL_store_7 : decode cL_store 7 = .ok (.invokevirtual 7, 3) := by decide +kernel
theorem dL_store_10 : decode cL_store 10 = .ok (.i2l, 1) := by decide +kernel
theorem dL_store_11 : decode cL_store 11 = .ok (.lastore, 1) := by decide +kernel
theorem dL_store_12 : decode cL_store 12 = .ok (.goto 11, 3) := by decide +kernel
theorem dL_store_15 : decode cL_store 15 = .ok (.astore 5, 2) := by decide +kernel
theorem dL_store_17 : decode cL_store 17 = .ok (.iconst 1, 1) := by decide +kernel
theorem dL_store_18 : decode cL_store 18 = .ok (.ireturn, 1) := by decide +kernel
theorem dL_store_19 : decode cL_store 19 = .ok (.astore 5, 2) := by decide +kernel
theorem dL_store_21 : decode cL_store 21 = .ok (.iconst 2, 1) := by decide +kernel
theorem dL_store_22 : decode cL_store 22 = .ok (.ireturn, 1) := by decide +kernel
theorem dL_store_23 : decode cL_store 23 = .ok (.iconst 0, 1) := by decide +kernel
theorem dL_store_24 : decode cL_store 24 = .ok (.ireturn, 1) := by decide +kernel
set_option maxRecDepth 20000 in
theorem ggL_compareAndSet_X2_compareAndSet : GoodIn wsL_compareAndSet wsX2_compareAndSet := goodIn_ca (goodIn_ca (goodIn_r _ [7, 8, 9, 10, 11, 6, 12, 13, 14, 15, 16, 17, 18, 19, 20, 21, 22, 23, 24, 25, 26, 27, 28, 29, 30, 31, 32, 33, 34, 35, 36, 37, 38, 39, 40, 41, 42, 43, 44] (by decide +kernel) (by decide +kernel)) (goodIn_sub (fun _ h => List.mem_cons_of_mem _ (List.mem_append_left _ (List.mem_append_right _ h))) (by decide +kernel))) (goodIn_sub (fun _ h => List.mem_cons_of_mem _ (List.mem_append_right _ h)) (by decide +kernel))
set_option maxRecDepth 20000 in
theorem gL_compareAndSet_X2_compareAndSet : GoodIn wsL_compareAndSet (wsV RL 17 RX2 yX2_compareAndSet wsX2_compareAndSet) := goodIn_app (goodIn_of _ (by decide +kernel)) ggL_compareAndSet_X2_compareAndSet
theorem dL_compareAndSet_0 : decode cL_compareAndSet 0 = .ok (.aload 5, 2) := by decide +kernel
theorem dL_compareAndSet_2 : decode cL_compareAndSet 2 = .ok (.iconst 0, 1) := by decide +kernel
theorem dL_compareAndSet_3 : decode cL_compareAndSet 3 = .ok (.aload_n 0, 1) := by decide +kernel
theorem dL_compareAndSet_4 : decode cL_compareAndSet 4 = .ok (.iload_n 1, 1) := by decide +kernel
theorem dL_compareAndSet_5 : decode cL_compareAndSet 5 = .ok (.iload_n 2, 1) := by decide +kernel
theorem dL_compareAndSet_6 : decode cL_compareAndSet 6 = .ok (.iload_n 3, 1) := by decide +kernel
theorem dL_compareAndSet_7 : decode cL_compareAndSet 7 = .ok (.iload 4, 2) := by decide +kernel
theorem dL_compareAndSet_9 : decode cL_compareAndSet 9 = .ok (.invokevirtual 17, 3) := by decide +kernel
theorem dL_compareAndSet_12 : decode cL_compareAndSet 12 = .ok (.ifCond .eq 7, 3) := by decide +kernel
theorem dL_compareAndSet_15 : decode cL_compareAndSet 15 = .ok (.lconst 1, 1) := by decide +kernel
theorem dL_compareAndSet_16 : decode cL_compareAndSet 16 = .ok (.goto 4, 3) := by decide +kernel
theorem dL_compareAndSet_19 : decode cL_compareAndSet 19 = .ok (.lconst 0, 1) := by decide +kernel
theorem dL_compareAndSet_20 : decode cL_compareAndSet 20 = .ok (.lastore, 1) := by decide +kernel
theorem dL_compareAndSet_21 : decode cL_compareAndSet 21 = .ok (.goto 11, 3) := by decide +kernel
theorem dL_compareAndSet_24 : decode cL_compareAndSet 24 = .ok (.astore 6, 2) := by decide +kernel
theorem dL_compareAndSet_26 : decode cL_compareAndSet 26 = .ok (.iconst 1, 1) := by decide +kernel
theorem dL_compareAndSet_27 : decode cL_compareAndSet 27 = .ok (.ireturn, 1) := by decide +kernel
theorem dL_compareAndSet_28 : decode cL_compareAndSet 28 = .ok (.astore 6, 2) := by decide +kernel
theorem dL_compareAndSet_30 : decode cL_compareAndSet 30 = .ok (.iconst 2, 1) := by decide +kernel
theorem dL_compareAndSet_31 : decode cL_compareAndSet 31 = .ok (.ireturn, 1) := by decide +kernel
theorem dL_compareAndSet_32 : decode cL_compareAndSet 32 = .ok (.iconst 0, 1) := by decide +kernel
theorem dL_compareAndSet_33 : decode cL_compareAndSet 33 = .ok (.ireturn, 1) := by decide +kernel
set_option maxRecDepth 20000 in
theorem ggL_fetchAdd_X2_fetchAdd : GoodIn wsL_fetchAdd wsX2_fetchAdd := goodIn_ca (goodIn_ca (goodIn_r _ [7, 8, 9, 10, 11, 6, 12, 13, 14, 15, 16, 17, 18, 19, 20, 21, 22, 23, 24, 25, 26, 27, 28, 29, 30, 31, 32, 33, 34, 35, 36, 37, 38, 39, 40, 41, 42, 43, 44] (by decide +kernel) (by decide +kernel)) (goodIn_sub (fun _ h => List.mem_cons_of_mem _ (List.mem_append_left _ (List.mem_append_right _ h))) (by decide +kernel))) (goodIn_sub (fun _ h => List.mem_cons_of_mem _ (List.mem_append_right _ h)) (by decide +kernel))
set_option maxRecDepth 20000 in
theorem gL_fetchAdd_X2_fetchAdd : GoodIn wsL_fetchAdd (wsV RL 21 RX2 yX2_fetchAdd wsX2_fetchAdd) := goodIn_app (goodIn_of _ (by decide +kernel)) ggL_fetchAdd_X2_fetchAdd
theorem dL_fetchAdd_0 : decode cL_fetchAdd 0 = .ok (.aload 4, 2) := by decide +kernel
theorem dL_fetchAdd_2 : decode cL_fetchAdd 2 = .ok (.iconst 0, 1) := by decide +kernel
theorem dL_fetchAdd_3 : decode cL_fetchAdd 3 = .ok (.aload_n 0, 1) := by decide +kernel
theorem dL_fetchAdd_4 : decode cL_fetchAdd 4 = .ok (.iload_n 1, 1) := by decide +kernel
theorem dL_fetchAdd_5 : decode cL_fetchAdd 5 = .ok (.iload_n 2, 1) := by decide +kernel
theorem dL_fetchAdd_6 : decode cL_fetchAdd 6 = .ok (.iload_n 3, 1) := by decide +kernel
theorem dL_fetchAdd_7 : decode cL_fetchAdd 7 = .ok (.invokevirtual 21, 3) := by decide +kernel
theorem dL_fetchAdd_10 : decode cL_fetchAdd 10 = .ok (.i2l, 1) := by decide +kernel
theorem dL_fetchAdd_11 : decode cL_fetchAdd 11 = .ok (.lastore, 1) := by decide +kernel
theorem dL_fetchAdd_12 : decode cL_fetchAdd 12 = .ok (.goto 11, 3) := by decide +kernel
theorem dL_fetchAdd_15 : decode cL_fetchAdd 15 = .ok (.astore 5, 2) := by decide +kernel
theorem dL_fetchAdd_17 : decode cL_fetchAdd 17 = .ok (.iconst 1, 1) := by decide +kernel
theorem dL_fetchAdd_18 : decode cL_fetchAdd 18 = .ok (.ireturn, 1) := by decide +kernel
theorem dL_fetchAdd_19 : decode cL_fetchAdd 19 = .ok (.astore 5, 2) := by decide +kernel
theorem dL_fetchAdd_21 : decode cL_fetchAdd 21 = .ok (.iconst 2, 1) := by decide +kernel
theorem dL_fetchAdd_22 : decode cL_fetchAdd 22 = .ok (.ireturn, 1) := by decide +kernel
theorem dL_fetchAdd_23 : decode cL_fetchAdd 23 = .ok (.iconst 0, 1) := by decide +kernel
theorem dL_fetchAdd_24 : decode cL_fetchAdd 24 = .ok (.ireturn, 1) := by decide +kernel
set_option maxRecDepth 20000 in
theorem ggL_word_X2_word : GoodIn wsL_word wsX2_word := goodIn_ca (goodIn_r _ [6, 7, 8, 9, 5, 10, 11, 12, 13, 14, 15, 16, 17, 18, 19, 20, 21] (by decide +kernel) (by decide +kernel)) (goodIn_sub (fun _ h => List.mem_cons_of_mem _ (List.mem_append_right _ h)) (by decide +kernel))
set_option maxRecDepth 20000 in
theorem gL_word_X2_word : GoodIn wsL_word (wsV RL 24 RX2 yX2_word wsX2_word) := goodIn_app (goodIn_of _ (by decide +kernel)) ggL_word_X2_word
theorem dL_word_0 : decode cL_word 0 = .ok (.aload_n 2, 1) := by decide +kernel
theorem dL_word_1 : decode cL_word 1 = .ok (.iconst 0, 1) := by decide +kernel
theorem dL_word_2 : decode cL_word 2 = .ok (.aload_n 0, 1) := by decide +kernel
theorem dL_word_3 : decode cL_word 3 = .ok (.iload_n 1, 1) := by decide +kernel
theorem dL_word_4 : decode cL_word 4 = .ok (.invokevirtual 24, 3) := by decide +kernel
theorem dL_word_7 : decode cL_word 7 = .ok (.i2l, 1) := by decide +kernel
theorem dL_word_8 : decode cL_word 8 = .ok (.lastore, 1) := by decide +kernel
theorem dL_word_9 : decode cL_word 9 = .ok (.goto 6, 3) := by decide +kernel
theorem dL_word_12 : decode cL_word 12 = .ok (.astore_n 3, 1) := by decide +kernel
theorem dL_word_13 : decode cL_word 13 = .ok (.iconst 1, 1) := by decide +kernel
theorem dL_word_14 : decode cL_word 14 = .ok (.ireturn, 1) := by decide +kernel
theorem dL_word_15 : decode cL_word 15 = .ok (.iconst 0, 1) := by decide +kernel
theorem dL_word_16 : decode cL_word 16 = .ok (.ireturn, 1) := by decide +kernel
set_option maxRecDepth 20000 in
theorem ggL_await_X2_await : GoodIn wsL_await wsX2_await := goodIn_ca (goodIn_ca (goodIn_ca (goodIn_r _ [8, 9, 10, 11, 12, 7, 13, 14, 15, 16, 17, 18, 19, 20, 21, 22, 23, 24, 25, 26, 27, 28, 29, 30, 31, 32, 33, 34, 35, 36, 37, 38, 39, 40, 41, 42, 43, 44, 45, 46, 47, 48, 49, 50, 51, 52, 53, 54, 55, 56, 57, 58, 59, 60, 61, 62, 63, 64, 65, 66] (by decide +kernel) (by decide +kernel)) (goodIn_sub (fun _ h => List.mem_cons_of_mem _ (List.mem_append_left _ (List.mem_append_left _ (List.mem_append_right _ h)))) (by decide +kernel))) (goodIn_sub (fun _ h => List.mem_cons_of_mem _ (List.mem_append_left _ (List.mem_append_right _ h))) (by decide +kernel))) (goodIn_sub (fun _ h => List.mem_cons_of_mem _ (List.mem_append_right _ h)) (by decide +kernel))
set_option maxRecDepth 20000 in
theorem gL_await_X2_await : GoodIn wsL_await (wsV RL 28 RX2 yX2_await wsX2_await) := goodIn_app (goodIn_of _ (by decide +kernel)) ggL_await_X2_await
theorem dL_await_0 : decode cL_await 0 = .ok (.aload 6, 2) := by decide +kernel
theorem dL_await_2 : decode cL_await 2 = .ok (.iconst 0, 1) := by decide +kernel
theorem dL_await_3 : decode cL_await 3 = .ok (.aload_n 0, 1) := by decide +kernel
theorem dL_await_4 : decode cL_await 4 = .ok (.iload_n 1, 1) := by decide +kernel
theorem dL_await_5 : decode cL_await 5 = .ok (.iload_n 2, 1) := by decide +kernel
theorem dL_await_6 : decode cL_await 6 = .ok (.iload_n 3, 1) := by decide +kernel
theorem dL_await_7 : decode cL_await 7 = .ok (.iload 4, 2) := by decide +kernel
theorem dL_await_9 : decode cL_await 9 = .ok (.iload 5, 2) := by decide +kernel
theorem dL_await_11 : decode cL_await 11 = .ok (.invokevirtual 28, 3) := by decide +kernel
theorem dL_await_14 : decode cL_await 14 = .ok (.ifCond .eq 7, 3) := by decide +kernel
theorem dL_await_17 : decode cL_await 17 = .ok (.lconst 1, 1) := by decide +kernel
theorem dL_await_18 : decode cL_await 18 = .ok (.goto 4, 3) := by decide +kernel
theorem dL_await_21 : decode cL_await 21 = .ok (.lconst 0, 1) := by decide +kernel
theorem dL_await_22 : decode cL_await 22 = .ok (.lastore, 1) := by decide +kernel
theorem dL_await_23 : decode cL_await 23 = .ok (.goto 15, 3) := by decide +kernel
theorem dL_await_26 : decode cL_await 26 = .ok (.astore 7, 2) := by decide +kernel
theorem dL_await_28 : decode cL_await 28 = .ok (.iconst 1, 1) := by decide +kernel
theorem dL_await_29 : decode cL_await 29 = .ok (.ireturn, 1) := by decide +kernel
theorem dL_await_30 : decode cL_await 30 = .ok (.astore 7, 2) := by decide +kernel
theorem dL_await_32 : decode cL_await 32 = .ok (.iconst 2, 1) := by decide +kernel
theorem dL_await_33 : decode cL_await 33 = .ok (.ireturn, 1) := by decide +kernel
theorem dL_await_34 : decode cL_await 34 = .ok (.astore 7, 2) := by decide +kernel
theorem dL_await_36 : decode cL_await 36 = .ok (.iconst 3, 1) := by decide +kernel
theorem dL_await_37 : decode cL_await 37 = .ok (.ireturn, 1) := by decide +kernel
theorem dL_await_38 : decode cL_await 38 = .ok (.iconst 0, 1) := by decide +kernel
theorem dL_await_39 : decode cL_await 39 = .ok (.ireturn, 1) := by decide +kernel
set_option maxRecDepth 20000 in
theorem ggL_wake_X2_wake : GoodIn wsL_wake wsX2_wake := goodIn_ca (goodIn_ca (goodIn_ca (goodIn_r _ [8, 9, 10, 11, 7, 12, 13, 14, 15, 16, 17, 18, 19, 20, 21, 22, 23, 24, 25, 26, 27, 28, 29, 30, 31, 32, 33, 34, 35, 36, 37, 38, 39, 40, 41, 42, 43, 44, 45, 46, 47, 48, 49, 50, 51, 52, 53, 54, 55, 56, 57, 58, 59, 60, 61, 62, 63, 64, 65, 66, 67, 68, 69, 70, 71, 72, 73, 74, 75, 76, 77, 78, 79, 80, 81, 82, 83, 84] (by decide +kernel) (by decide +kernel)) (goodIn_sub (fun _ h => List.mem_cons_of_mem _ (List.mem_append_left _ (List.mem_append_left _ (List.mem_append_right _ h)))) (by decide +kernel))) (goodIn_sub (fun _ h => List.mem_cons_of_mem _ (List.mem_append_left _ (List.mem_append_right _ h))) (by decide +kernel))) (goodIn_sub (fun _ h => List.mem_cons_of_mem _ (List.mem_append_right _ h)) (by decide +kernel))
set_option maxRecDepth 20000 in
theorem gL_wake_X2_wake : GoodIn wsL_wake (wsV RL 34 RX2 yX2_wake wsX2_wake) := goodIn_app (goodIn_of _ (by decide +kernel)) ggL_wake_X2_wake
theorem dL_wake_0 : decode cL_wake 0 = .ok (.aload 5, 2) := by decide +kernel
theorem dL_wake_2 : decode cL_wake 2 = .ok (.iconst 0, 1) := by decide +kernel
theorem dL_wake_3 : decode cL_wake 3 = .ok (.aload_n 0, 1) := by decide +kernel
theorem dL_wake_4 : decode cL_wake 4 = .ok (.iload_n 1, 1) := by decide +kernel
theorem dL_wake_5 : decode cL_wake 5 = .ok (.iload_n 2, 1) := by decide +kernel
theorem dL_wake_6 : decode cL_wake 6 = .ok (.iload_n 3, 1) := by decide +kernel
theorem dL_wake_7 : decode cL_wake 7 = .ok (.iload 4, 2) := by decide +kernel
theorem dL_wake_9 : decode cL_wake 9 = .ok (.invokevirtual 34, 3) := by decide +kernel
theorem dL_wake_12 : decode cL_wake 12 = .ok (.i2l, 1) := by decide +kernel
theorem dL_wake_13 : decode cL_wake 13 = .ok (.lastore, 1) := by decide +kernel
theorem dL_wake_14 : decode cL_wake 14 = .ok (.goto 15, 3) := by decide +kernel
theorem dL_wake_17 : decode cL_wake 17 = .ok (.astore 6, 2) := by decide +kernel
theorem dL_wake_19 : decode cL_wake 19 = .ok (.iconst 1, 1) := by decide +kernel
theorem dL_wake_20 : decode cL_wake 20 = .ok (.ireturn, 1) := by decide +kernel
theorem dL_wake_21 : decode cL_wake 21 = .ok (.astore 6, 2) := by decide +kernel
theorem dL_wake_23 : decode cL_wake 23 = .ok (.iconst 2, 1) := by decide +kernel
theorem dL_wake_24 : decode cL_wake 24 = .ok (.ireturn, 1) := by decide +kernel
theorem dL_wake_25 : decode cL_wake 25 = .ok (.astore 6, 2) := by decide +kernel
theorem dL_wake_27 : decode cL_wake 27 = .ok (.iconst 3, 1) := by decide +kernel
theorem dL_wake_28 : decode cL_wake 28 = .ok (.ireturn, 1) := by decide +kernel
theorem dL_wake_29 : decode cL_wake 29 = .ok (.iconst 0, 1) := by decide +kernel
theorem dL_wake_30 : decode cL_wake 30 = .ok (.ireturn, 1) := by decide +kernel
set_option maxRecDepth 20000 in
theorem ggL_requeue_X2_requeue : GoodIn wsL_requeue wsX2_requeue := goodIn_ca (goodIn_ca (goodIn_ca (goodIn_r _ [8, 9, 10, 11, 12, 13, 14, 7, 15, 16, 17, 18, 19, 20, 21, 22, 23, 24, 25, 26, 27, 28, 29, 30, 31, 32, 33, 34, 35, 36, 37, 38, 39, 40, 41, 42, 43, 44, 45, 46, 47, 48, 49, 50, 51, 52, 53, 54, 55, 56, 57, 58, 59, 60, 61, 62, 63, 64, 65, 66, 67, 68, 69, 70, 71, 72, 73, 74, 75, 76, 77, 78, 79, 80, 81, 82, 83, 84, 85, 86, 87, 88, 89, 90, 91, 92, 93, 94] (by decide +kernel) (by decide +kernel)) (goodIn_sub (fun _ h => List.mem_cons_of_mem _ (List.mem_append_left _ (List.mem_append_left _ (List.mem_append_right _ h)))) (by decide +kernel))) (goodIn_sub (fun _ h => List.mem_cons_of_mem _ (List.mem_append_left _ (List.mem_append_right _ h))) (by decide +kernel))) (goodIn_sub (fun _ h => List.mem_cons_of_mem _ (List.mem_append_right _ h)) (by decide +kernel))
set_option maxRecDepth 20000 in
theorem gL_requeue_X2_requeue : GoodIn wsL_requeue (wsV RL 38 RX2 yX2_requeue wsX2_requeue) := goodIn_app (goodIn_of _ (by decide +kernel)) ggL_requeue_X2_requeue
theorem dL_requeue_0 : decode cL_requeue 0 = .ok (.aload 7, 2) := by decide +kernel
theorem dL_requeue_2 : decode cL_requeue 2 = .ok (.iconst 0, 1) := by decide +kernel
theorem dL_requeue_3 : decode cL_requeue 3 = .ok (.aload_n 0, 1) := by decide +kernel
theorem dL_requeue_4 : decode cL_requeue 4 = .ok (.iload_n 1, 1) := by decide +kernel
theorem dL_requeue_5 : decode cL_requeue 5 = .ok (.iload_n 2, 1) := by decide +kernel
theorem dL_requeue_6 : decode cL_requeue 6 = .ok (.iload_n 3, 1) := by decide +kernel
theorem dL_requeue_7 : decode cL_requeue 7 = .ok (.iload 4, 2) := by decide +kernel
theorem dL_requeue_9 : decode cL_requeue 9 = .ok (.iload 5, 2) := by decide +kernel
theorem dL_requeue_11 : decode cL_requeue 11 = .ok (.iload 6, 2) := by decide +kernel
theorem dL_requeue_13 : decode cL_requeue 13 = .ok (.invokevirtual 38, 3) := by decide +kernel
theorem dL_requeue_16 : decode cL_requeue 16 = .ok (.i2l, 1) := by decide +kernel
theorem dL_requeue_17 : decode cL_requeue 17 = .ok (.lastore, 1) := by decide +kernel
theorem dL_requeue_18 : decode cL_requeue 18 = .ok (.goto 15, 3) := by decide +kernel
theorem dL_requeue_21 : decode cL_requeue 21 = .ok (.astore 8, 2) := by decide +kernel
theorem dL_requeue_23 : decode cL_requeue 23 = .ok (.iconst 1, 1) := by decide +kernel
theorem dL_requeue_24 : decode cL_requeue 24 = .ok (.ireturn, 1) := by decide +kernel
theorem dL_requeue_25 : decode cL_requeue 25 = .ok (.astore 8, 2) := by decide +kernel
theorem dL_requeue_27 : decode cL_requeue 27 = .ok (.iconst 2, 1) := by decide +kernel
theorem dL_requeue_28 : decode cL_requeue 28 = .ok (.ireturn, 1) := by decide +kernel
theorem dL_requeue_29 : decode cL_requeue 29 = .ok (.astore 8, 2) := by decide +kernel
theorem dL_requeue_31 : decode cL_requeue 31 = .ok (.iconst 3, 1) := by decide +kernel
theorem dL_requeue_32 : decode cL_requeue 32 = .ok (.ireturn, 1) := by decide +kernel
theorem dL_requeue_33 : decode cL_requeue 33 = .ok (.iconst 0, 1) := by decide +kernel
theorem dL_requeue_34 : decode cL_requeue 34 = .ok (.ireturn, 1) := by decide +kernel
set_option maxRecDepth 20000 in
theorem ggL_lock_X2_lock : GoodIn wsL_lock wsX2_lock := goodIn_ca (goodIn_ca (goodIn_ca (goodIn_r _ [8, 9, 10, 11, 12, 13, 14, 15, 7, 16, 17, 18, 19, 20, 21, 22, 23, 24, 25, 26, 27, 28, 29, 30, 31, 32, 33, 34, 35, 36, 37, 38, 39, 40, 41, 42, 43, 44, 45, 46, 47, 48, 49, 50, 51, 52, 53, 54, 55, 56, 57, 58, 59, 60, 61, 62, 63, 64, 65, 66, 67, 68, 69, 70, 71, 72, 73, 74, 75, 76, 77, 78, 79, 80, 81, 82, 83, 84, 85, 86, 87, 88, 89, 90, 91, 92, 93, 94, 95, 96, 97, 98, 99, 100, 101, 102, 103, 104, 105, 106, 107, 108, 109, 110] (by decide +kernel) (by decide +kernel)) (goodIn_sub (fun _ h => List.mem_cons_of_mem _ (List.mem_append_left _ (List.mem_append_left _ (List.mem_append_right _ h)))) (by decide +kernel))) (goodIn_sub (fun _ h => List.mem_cons_of_mem _ (List.mem_append_left _ (List.mem_append_right _ h))) (by decide +kernel))) (goodIn_sub (fun _ h => List.mem_cons_of_mem _ (List.mem_append_right _ h)) (by decide +kernel))
set_option maxRecDepth 20000 in
theorem gL_lock_X2_lock : GoodIn wsL_lock (wsV RL 42 RX2 yX2_lock wsX2_lock) := goodIn_app (goodIn_of _ (by decide +kernel)) ggL_lock_X2_lock
theorem dL_lock_0 : decode cL_lock 0 = .ok (.aload 4, 2) := by decide +kernel
theorem dL_lock_2 : decode cL_lock 2 = .ok (.iconst 0, 1) := by decide +kernel
theorem dL_lock_3 : decode cL_lock 3 = .ok (.aload_n 0, 1) := by decide +kernel
theorem dL_lock_4 : decode cL_lock 4 = .ok (.iload_n 1, 1) := by decide +kernel
theorem dL_lock_5 : decode cL_lock 5 = .ok (.iload_n 2, 1) := by decide +kernel
theorem dL_lock_6 : decode cL_lock 6 = .ok (.iload_n 3, 1) := by decide +kernel
theorem dL_lock_7 : decode cL_lock 7 = .ok (.invokevirtual 42, 3) := by decide +kernel
theorem dL_lock_10 : decode cL_lock 10 = .ok (.i2l, 1) := by decide +kernel
theorem dL_lock_11 : decode cL_lock 11 = .ok (.lastore, 1) := by decide +kernel
theorem dL_lock_12 : decode cL_lock 12 = .ok (.goto 15, 3) := by decide +kernel
theorem dL_lock_15 : decode cL_lock 15 = .ok (.astore 5, 2) := by decide +kernel
theorem dL_lock_17 : decode cL_lock 17 = .ok (.iconst 1, 1) := by decide +kernel
theorem dL_lock_18 : decode cL_lock 18 = .ok (.ireturn, 1) := by decide +kernel
theorem dL_lock_19 : decode cL_lock 19 = .ok (.astore 5, 2) := by decide +kernel
theorem dL_lock_21 : decode cL_lock 21 = .ok (.iconst 2, 1) := by decide +kernel
theorem dL_lock_22 : decode cL_lock 22 = .ok (.ireturn, 1) := by decide +kernel
theorem dL_lock_23 : decode cL_lock 23 = .ok (.astore 5, 2) := by decide +kernel
theorem dL_lock_25 : decode cL_lock 25 = .ok (.iconst 3, 1) := by decide +kernel
theorem dL_lock_26 : decode cL_lock 26 = .ok (.ireturn, 1) := by decide +kernel
theorem dL_lock_27 : decode cL_lock 27 = .ok (.iconst 0, 1) := by decide +kernel
theorem dL_lock_28 : decode cL_lock 28 = .ok (.ireturn, 1) := by decide +kernel
set_option maxRecDepth 20000 in
theorem ggL_unlock_X2_unlock : GoodIn wsL_unlock wsX2_unlock := goodIn_ca (goodIn_ca (goodIn_r _ [7, 8, 9, 10, 11, 12, 13, 6, 14, 15, 16, 17, 18, 19, 20, 21, 22, 23, 24, 25, 26, 27, 28, 29, 30, 31, 32, 33, 34, 35, 36, 37, 38, 39, 40, 41, 42, 43, 44, 45, 46, 47, 48, 49, 50, 51, 52, 53, 54, 55, 56, 57, 58, 59, 60, 61, 62, 63, 64, 65, 66, 67, 68, 69, 70, 71, 72, 73, 74, 75, 76, 77, 78, 79, 80, 81, 82, 83, 84, 85, 86, 87, 88, 89, 90, 91, 92, 93, 94, 95, 96, 97, 98, 99, 100, 101, 102, 103, 104, 105, 106, 107] (by decide +kernel) (by decide +kernel)) (goodIn_sub (fun _ h => List.mem_cons_of_mem _ (List.mem_append_left _ (List.mem_append_right _ h))) (by decide +kernel))) (goodIn_sub (fun _ h => List.mem_cons_of_mem _ (List.mem_append_right _ h)) (by decide +kernel))
set_option maxRecDepth 20000 in
theorem gL_unlock_X2_unlock : GoodIn wsL_unlock (wsV RL 45 RX2 yX2_unlock wsX2_unlock) := goodIn_app (goodIn_of _ (by decide +kernel)) ggL_unlock_X2_unlock
theorem dL_unlock_0 : decode cL_unlock 0 = .ok (.aload_n 3, 1) := by decide +kernel
theorem dL_unlock_1 : decode cL_unlock 1 = .ok (.iconst 0, 1) := by decide +kernel
theorem dL_unlock_2 : decode cL_unlock 2 = .ok (.aload_n 0, 1) := by decide +kernel
theorem dL_unlock_3 : decode cL_unlock 3 = .ok (.iload_n 1, 1) := by decide +kernel
theorem dL_unlock_4 : decode cL_unlock 4 = .ok (.iload_n 2, 1) := by decide +kernel
theorem dL_unlock_5 : decode cL_unlock 5 = .ok (.invokevirtual 45, 3) := by decide +kernel
theorem dL_unlock_8 : decode cL_unlock 8 = .ok (.i2l, 1) := by decide +kernel
theorem dL_unlock_9 : decode cL_unlock 9 = .ok (.lastore, 1) := by decide +kernel
theorem dL_unlock_10 : decode cL_unlock 10 = .ok (.goto 11, 3) := by decide +kernel
theorem dL_unlock_13 : decode cL_unlock 13 = .ok (.astore 4, 2) := by decide +kernel
theorem dL_unlock_15 : decode cL_unlock 15 = .ok (.iconst 1, 1) := by decide +kernel
theorem dL_unlock_16 : decode cL_unlock 16 = .ok (.ireturn, 1) := by decide +kernel
theorem dL_unlock_17 : decode cL_unlock 17 = .ok (.astore 4, 2) := by decide +kernel
theorem dL_unlock_19 : decode cL_unlock 19 = .ok (.iconst 2, 1) := by decide +kernel
theorem dL_unlock_20 : decode cL_unlock 20 = .ok (.ireturn, 1) := by decide +kernel
theorem dL_unlock_21 : decode cL_unlock 21 = .ok (.iconst 0, 1) := by decide +kernel
theorem dL_unlock_22 : decode cL_unlock 22 = .ok (.ireturn, 1) := by decide +kernel
set_option maxRecDepth 20000 in
theorem ggL_locks_X2_locks : GoodIn wsL_locks wsX2_locks := goodIn_ca (goodIn_r _ [6, 7, 8, 9, 10, 11, 5, 12, 13, 14, 15, 16, 17, 18, 19, 20, 21, 22, 23, 24, 25, 26, 27, 28, 29, 30, 31, 32, 33, 34] (by decide +kernel) (by decide +kernel)) (goodIn_sub (fun _ h => List.mem_cons_of_mem _ (List.mem_append_right _ h)) (by decide +kernel))
set_option maxRecDepth 20000 in
theorem gL_locks_X2_locks : GoodIn wsL_locks (wsV RL 49 RX2 yX2_locks wsX2_locks) := goodIn_app (goodIn_of _ (by decide +kernel)) ggL_locks_X2_locks
theorem dL_locks_0 : decode cL_locks 0 = .ok (.aload_n 2, 1) := by decide +kernel
theorem dL_locks_1 : decode cL_locks 1 = .ok (.iconst 0, 1) := by decide +kernel
theorem dL_locks_2 : decode cL_locks 2 = .ok (.aload_n 0, 1) := by decide +kernel
theorem dL_locks_3 : decode cL_locks 3 = .ok (.iload_n 1, 1) := by decide +kernel
theorem dL_locks_4 : decode cL_locks 4 = .ok (.invokevirtual 49, 3) := by decide +kernel
theorem dL_locks_7 : decode cL_locks 7 = .ok (.i2l, 1) := by decide +kernel
theorem dL_locks_8 : decode cL_locks 8 = .ok (.lastore, 1) := by decide +kernel
theorem dL_locks_9 : decode cL_locks 9 = .ok (.goto 6, 3) := by decide +kernel
theorem dL_locks_12 : decode cL_locks 12 = .ok (.astore_n 3, 1) := by decide +kernel
theorem dL_locks_13 : decode cL_locks 13 = .ok (.iconst 1, 1) := by decide +kernel
theorem dL_locks_14 : decode cL_locks 14 = .ok (.ireturn, 1) := by decide +kernel
theorem dL_locks_15 : decode cL_locks 15 = .ok (.iconst 0, 1) := by decide +kernel
theorem dL_locks_16 : decode cL_locks 16 = .ok (.ireturn, 1) := by decide +kernel
set_option maxRecDepth 20000 in
theorem ggL_lockAt_X2_lockAt : GoodIn wsL_lockAt wsX2_lockAt := goodIn_ca (goodIn_r _ [6, 7, 8, 9, 10, 11, 12, 13, 5, 14, 15, 16, 17, 18, 19, 20, 21, 22, 23, 24, 25, 26, 27, 28, 29, 30, 31, 32, 33, 34, 35, 36, 37, 38, 39, 40, 41] (by decide +kernel) (by decide +kernel)) (goodIn_sub (fun _ h => List.mem_cons_of_mem _ (List.mem_append_right _ h)) (by decide +kernel))
set_option maxRecDepth 20000 in
theorem gL_lockAt_X2_lockAt : GoodIn wsL_lockAt (wsV RL 52 RX2 yX2_lockAt wsX2_lockAt) := goodIn_app (goodIn_of _ (by decide +kernel)) ggL_lockAt_X2_lockAt
theorem dL_lockAt_0 : decode cL_lockAt 0 = .ok (.aload_n 3, 1) := by decide +kernel
theorem dL_lockAt_1 : decode cL_lockAt 1 = .ok (.iconst 0, 1) := by decide +kernel
theorem dL_lockAt_2 : decode cL_lockAt 2 = .ok (.aload_n 0, 1) := by decide +kernel
theorem dL_lockAt_3 : decode cL_lockAt 3 = .ok (.iload_n 1, 1) := by decide +kernel
theorem dL_lockAt_4 : decode cL_lockAt 4 = .ok (.iload_n 2, 1) := by decide +kernel
theorem dL_lockAt_5 : decode cL_lockAt 5 = .ok (.invokevirtual 52, 3) := by decide +kernel
theorem dL_lockAt_8 : decode cL_lockAt 8 = .ok (.i2l, 1) := by decide +kernel
theorem dL_lockAt_9 : decode cL_lockAt 9 = .ok (.lastore, 1) := by decide +kernel
theorem dL_lockAt_10 : decode cL_lockAt 10 = .ok (.goto 7, 3) := by decide +kernel
theorem dL_lockAt_13 : decode cL_lockAt 13 = .ok (.astore 4, 2) := by decide +kernel
theorem dL_lockAt_15 : decode cL_lockAt 15 = .ok (.iconst 1, 1) := by decide +kernel
theorem dL_lockAt_16 : decode cL_lockAt 16 = .ok (.ireturn, 1) := by decide +kernel
theorem dL_lockAt_17 : decode cL_lockAt 17 = .ok (.iconst 0, 1) := by decide +kernel
theorem dL_lockAt_18 : decode cL_lockAt 18 = .ok (.ireturn, 1) := by decide +kernel
