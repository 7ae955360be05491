set_option maxRecDepth 20000 in
theorem ggL_wakes_L_some : GoodIn wsL_wakes wsL_some := goodIn_r _ [8] (by decide +kernel) (by decide +kernel)
set_option maxRecDepth 20000 in
theorem gL_wakes_L_some : GoodIn wsL_wakes (va_wsS RL 121 yL_some wsL_some) := goodIn_app (goodIn_of _ (by decide +kernel)) ggL_wakes_L_some
set_option maxRecDepth 20000 in
theorem ggL_wakes_L_last : GoodIn wsL_wakes wsL_last := goodIn_ca (goodIn_r _ [11, 12, 13, 14, 15, 16, 17, 18, 19, 20, 21, 22, 23, 24, 274, 275, 276, 277, 278, 279, 280, 281, 282, 283, 284, 285, 286, 287, 288, 289, 290] (by decide +kernel) (by decide +kernel)) (goodIn_sub (fun _ h => List.mem_cons_of_mem _ (List.mem_append_left _ (List.mem_append_left _ (List.mem_append_right _ h)))) (by decide +kernel))
set_option maxRecDepth 20000 in
theorem gL_wakes_L_last : GoodIn wsL_wakes (va_wsS RL 147 yL_last wsL_last) := goodIn_app (goodIn_of _ (by decide +kernel)) ggL_wakes_L_last
set_option maxRecDepth 20000 in
theorem ggL_wakes_X2_waiters : GoodIn wsL_wakes wsX2_waiters := goodIn_ca (goodIn_r _ [28, 24, 29, 30, 31, 15, 32, 22, 23, 33, 34, 35, 285, 286, 287, 288, 289, 290, 274, 275, 276, 277, 278, 279, 280, 281, 282, 283, 284] (by decide +kernel) (by decide +kernel)) (goodIn_sub (fun _ h => List.mem_cons_of_mem _ (List.mem_append_left _ (List.mem_append_left _ (List.mem_append_right _ h)))) (by decide +kernel))
set_option maxRecDepth 20000 in
theorem gL_wakes_X2_waiters : GoodIn wsL_wakes (wsV RL 112 RX2 yX2_waiters wsX2_waiters) := goodIn_app (goodIn_of _ (by decide +kernel)) ggL_wakes_X2_waiters
set_option maxRecDepth 20000 in
theorem ggL_wakes_X2_waiterAt : GoodIn wsL_wakes wsX2_waiterAt := goodIn_ca (goodIn_r _ [39, 22, 23, 24, 29, 40, 30, 31, 15, 32, 33, 34, 35, 41, 42, 43, 44, 45, 46, 47, 48, 49, 50, 51, 285, 286, 287, 288, 289, 290, 274, 275, 276, 277, 278, 279, 280, 281, 282, 283, 284] (by decide +kernel) (by decide +kernel)) (goodIn_sub (fun _ h => List.mem_cons_of_mem _ (List.mem_append_left _ (List.mem_append_left _ (List.mem_append_right _ h)))) (by decide +kernel))
set_option maxRecDepth 20000 in
theorem gL_wakes_X2_waiterAt : GoodIn wsL_wakes (wsV RL 115 RX2 yX2_waiterAt wsX2_waiterAt) := goodIn_app (goodIn_of _ (by decide +kernel)) ggL_wakes_X2_waiterAt
set_option maxRecDepth 20000 in
theorem ggL_wakes_X2_stateOf : GoodIn wsL_wakes wsX2_stateOf := goodIn_ca (goodIn_r _ [55, 56, 18, 19, 20, 15, 21, 22, 23, 24, 274, 275, 276, 277, 278, 279, 280, 281, 282, 283, 284, 285, 286, 287, 288, 289, 290] (by decide +kernel) (by decide +kernel)) (goodIn_sub (fun _ h => List.mem_cons_of_mem _ (List.mem_append_left _ (List.mem_append_left _ (List.mem_append_right _ h)))) (by decide +kernel))
set_option maxRecDepth 20000 in
theorem gL_wakes_X2_stateOf : GoodIn wsL_wakes (wsV RL 73 RX2 yX2_stateOf wsX2_stateOf) := goodIn_app (goodIn_of _ (by decide +kernel)) ggL_wakes_X2_stateOf
set_option maxRecDepth 20000 in
theorem ggL_wakes_L_threads : GoodIn wsL_wakes wsL_threads := goodIn_ca (goodIn_r _ [59, 60, 61, 62, 63, 64, 65, 66, 67, 68, 15, 69, 70, 52, 53, 54, 55, 56, 18, 19, 20, 21, 22, 23, 24, 71, 72, 73, 74, 29, 75, 76, 77, 78, 79, 12, 13, 14, 16, 17, 80, 81, 82, 83, 84, 85, 86, 87, 88, 89, 90, 91, 92, 93, 94, 95, 96, 97, 98, 99, 100, 40, 101, 102, 103, 48, 104, 105, 106, 107, 108, 109, 110, 111, 112, 45, 46, 47, 49, 50, 51, 285, 286, 287, 288, 289, 290, 274, 275, 276, 277, 278, 279, 280, 281, 282, 283, 284, 291, 292] (by decide +kernel) (by decide +kernel)) (goodIn_sub (fun _ h => List.mem_cons_of_mem _ (List.mem_append_left _ (List.mem_append_left _ (List.mem_append_right _ h)))) (by decide +kernel))
set_option maxRecDepth 20000 in
theorem gL_wakes_L_threads : GoodIn wsL_wakes (va_wsS RL 124 yL_threads wsL_threads) := goodIn_app (goodIn_of _ (by decide +kernel)) ggL_wakes_L_threads
set_option maxRecDepth 20000 in
theorem ggL_wakes_X2_word : GoodIn wsL_wakes wsX2_word := goodIn_ca (goodIn_r _ [116, 117, 30, 31, 15, 32, 22, 23, 33, 34, 35, 285, 286, 287, 288, 289, 290] (by decide +kernel) (by decide +kernel)) (goodIn_sub (fun _ h => List.mem_cons_of_mem _ (List.mem_append_left _ (List.mem_append_left _ (List.mem_append_right _ h)))) (by decide +kernel))
set_option maxRecDepth 20000 in
theorem gL_wakes_X2_word : GoodIn wsL_wakes (wsV RL 106 RX2 yX2_word wsX2_word) := goodIn_app (goodIn_of _ (by decide +kernel)) ggL_wakes_X2_word
set_option maxRecDepth 20000 in
theorem ggL_wakes_L_requeue : GoodIn wsL_wakes wsL_requeue := goodIn_ca (goodIn_ca (goodIn_ca (goodIn_r _ [120, 121, 122, 123, 1, 2, 3, 124, 125, 126, 15, 127, 128, 129, 117, 18, 19, 20, 21, 22, 23, 24, 30, 31, 32, 33, 34, 35, 130, 131, 132, 133, 134, 135, 136, 137, 56, 138, 139, 140, 141, 142, 143, 144, 145, 29, 146, 45, 46, 47, 48, 49, 50, 51, 147, 148, 149, 150, 79, 151, 17, 152, 153, 154, 155, 156, 157, 158, 159, 160, 161, 162, 163, 164, 165, 166, 167, 168, 169, 170, 171, 285, 286, 287, 288, 289, 290, 274, 275, 276, 277, 278, 279, 280, 281, 282, 283, 284] (by decide +kernel) (by decide +kernel)) (goodIn_sub (fun _ h => List.mem_cons_of_mem _ (List.mem_append_left _ (List.mem_append_right _ h))) (by decide +kernel))) (goodIn_sub (fun _ h => List.mem_cons_of_mem _ (List.mem_append_left _ (List.mem_append_left _ (List.mem_append_right _ h)))) (by decide +kernel))) (goodIn_sub (fun _ h => List.mem_cons_of_mem _ (List.mem_append_right _ h)) (by decide +kernel))
set_option maxRecDepth 20000 in
theorem gL_wakes_L_requeue : GoodIn wsL_wakes (va_wsS RL 151 yL_requeue wsL_requeue) := goodIn_app (goodIn_of _ (by decide +kernel)) ggL_wakes_L_requeue
set_option maxRecDepth 20000 in
theorem ggL_wakes_L_acts : GoodIn wsL_wakes wsL_acts := goodIn_ca (goodIn_ca (goodIn_ca (goodIn_r _ [174, 121, 122, 123, 1, 2, 3, 175, 176, 177, 15, 178, 117, 179, 56, 180, 18, 19, 20, 21, 22, 23, 24, 30, 31, 32, 33, 34, 35, 130, 131, 132, 128, 129, 133, 134, 135, 136, 137, 181, 182, 183, 184, 40, 84, 158, 159, 160, 161, 142, 143, 144, 145, 29, 146, 45, 46, 47, 48, 49, 50, 51, 185, 186, 187, 93, 188, 95, 96, 189, 190, 191, 192, 193, 194, 195, 196, 197, 198, 199, 200, 201, 202, 203, 204, 70, 156, 205, 206, 166, 167, 168, 169, 170, 171, 207, 208, 209, 210, 211, 212, 213, 214, 215, 216, 217, 218, 147, 148, 149, 150, 79, 151, 17, 152, 153, 154, 155, 157, 219, 220, 221, 222, 138, 139, 140, 141, 223, 224, 225, 226, 85, 227, 228, 229, 101, 102, 103, 104, 105, 90, 91, 92, 94, 230, 231, 232, 233, 234, 235, 236, 237, 238, 239, 240, 241, 242, 243, 244, 245, 246, 247, 248, 249, 250, 251, 252, 253, 254, 255, 256, 257, 258, 7, 259, 260, 261, 262, 263, 264, 265, 266, 267, 285, 286, 287, 288, 289, 290, 274, 275, 276, 277, 278, 279, 280, 281, 282, 283, 284, 291, 292] (by decide +kernel) (by decide +kernel)) (goodIn_sub (fun _ h => List.mem_cons_of_mem _ (List.mem_append_left _ (List.mem_append_left _ (List.mem_append_right _ h)))) (by decide +kernel))) (goodIn_sub (fun _ h => List.mem_cons_of_mem _ (List.mem_append_left _ (List.mem_append_right _ h))) (by decide +kernel))) (goodIn_sub (fun _ h => List.mem_cons_of_mem _ (List.mem_append_right _ h)) (by decide +kernel))
set_option maxRecDepth 20000 in
theorem gL_wakes_L_acts : GoodIn wsL_wakes (va_wsS RL 131 yL_acts wsL_acts) := goodIn_app (goodIn_of _ (by decide +kernel)) ggL_wakes_L_acts
set_option maxRecDepth 20000 in
theorem ggL_wakes_X2_resultOf : GoodIn wsL_wakes wsX2_resultOf := goodIn_ca (goodIn_r _ [78, 79, 18, 19, 20, 15, 21, 22, 23, 24, 274, 275, 276, 277, 278, 279, 280, 281, 282, 283, 284, 285, 286, 287, 288, 289, 290] (by decide +kernel) (by decide +kernel)) (goodIn_sub (fun _ h => List.mem_cons_of_mem _ (List.mem_append_left _ (List.mem_append_left _ (List.mem_append_right _ h)))) (by decide +kernel))
set_option maxRecDepth 20000 in
theorem gL_wakes_X2_resultOf : GoodIn wsL_wakes (wsV RL 83 RX2 yX2_resultOf wsX2_resultOf) := goodIn_app (goodIn_of _ (by decide +kernel)) ggL_wakes_X2_resultOf
set_option maxRecDepth 20000 in
theorem ggL_wakes_X2_serialOf : GoodIn wsL_wakes wsX2_serialOf := goodIn_ca (goodIn_r _ [16, 17, 18, 19, 20, 15, 21, 22, 23, 24, 274, 275, 276, 277, 278, 279, 280, 281, 282, 283, 284, 285, 286, 287, 288, 289, 290] (by decide +kernel) (by decide +kernel)) (goodIn_sub (fun _ h => List.mem_cons_of_mem _ (List.mem_append_left _ (List.mem_append_left _ (List.mem_append_right _ h)))) (by decide +kernel))
set_option maxRecDepth 20000 in
theorem gL_wakes_X2_serialOf : GoodIn wsL_wakes (wsV RL 88 RX2 yX2_serialOf wsX2_serialOf) := goodIn_app (goodIn_of _ (by decide +kernel)) ggL_wakes_X2_serialOf
set_option maxRecDepth 20000 in
theorem ggL_wakes_X2_addressOf : GoodIn wsL_wakes wsX2_addressOf := goodIn_ca (goodIn_r _ [74, 29, 18, 19, 20, 15, 21, 22, 23, 24, 274, 275, 276, 277, 278, 279, 280, 281, 282, 283, 284, 285, 286, 287, 288, 289, 290] (by decide +kernel) (by decide +kernel)) (goodIn_sub (fun _ h => List.mem_cons_of_mem _ (List.mem_append_left _ (List.mem_append_left _ (List.mem_append_right _ h)))) (by decide +kernel))
set_option maxRecDepth 20000 in
theorem gL_wakes_X2_addressOf : GoodIn wsL_wakes (wsV RL 78 RX2 yX2_addressOf wsX2_addressOf) := goodIn_app (goodIn_of _ (by decide +kernel)) ggL_wakes_X2_addressOf
set_option maxRecDepth 20000 in
theorem ggL_wakes_L_joined : GoodIn wsL_wakes wsL_joined := goodIn_ca (goodIn_r _ [270, 271, 272, 7, 273, 97, 98, 99, 15, 100, 22, 23, 24, 29, 40, 101, 102, 103, 48, 104, 105, 106, 107, 108, 109, 110, 111, 112, 45, 46, 47, 49, 50, 51, 71, 72, 73, 74, 18, 19, 20, 21, 285, 286, 287, 288, 289, 290, 274, 275, 276, 277, 278, 279, 280, 281, 282, 283, 284] (by decide +kernel) (by decide +kernel)) (goodIn_sub (fun _ h => List.mem_cons_of_mem _ (List.mem_append_left _ (List.mem_append_left _ (List.mem_append_right _ h)))) (by decide +kernel))
set_option maxRecDepth 20000 in
theorem gL_wakes_L_joined : GoodIn wsL_wakes (va_wsS RL 143 yL_joined wsL_joined) := goodIn_app (goodIn_of _ (by decide +kernel)) ggL_wakes_L_joined
theorem dL_wakes_0 : decode cL_wakes 0 = .ok (.iload_n 2, 1) := by decide +kernel
theorem dL_wakes_1 : decode cL_wakes 1 = .ok (.iconst 2, 1) := by decide +kernel
theorem dL_wakes_2 : decode cL_wakes 2 = .ok (.invokestatic 121, 3) := by decide +kernel
theorem dL_wakes_5 : decode cL_wakes 5 = .ok (.ifCond .ne 7, 3) := by decide +kernel
theorem dL_wakes_8 : decode cL_wakes 8 = .ok (.iconst 1, 1) := by decide +kernel
theorem dL_wakes_9 : decode cL_wakes 9 = .ok (.goto 4, 3) := by decide +kernel
theorem dL_wakes_12 : decode cL_wakes 12 = .ok (.iconst 0, 1) := by decide +kernel
theorem dL_wakes_13 : decode cL_wakes 13 = .ok (.istore 4, 2) := by decide +kernel
theorem dL_wakes_15 : decode cL_wakes 15 = .ok (.iload_n 3, 1) := by decide +kernel
theorem dL_wakes_16 : decode cL_wakes 16 = .ok (.ifCond .eq 16, 3) := by decide +kernel
theorem dL_wakes_19 : decode cL_wakes 19 = .ok (.iload_n 2, 1) := by decide +kernel
theorem dL_wakes_20 : decode cL_wakes 20 = .ok (.iconst 2, 1) := by decide +kernel
theorem dL_wakes_21 : decode cL_wakes 21 = .ok (.ishr, 1) := by decide +kernel
theorem dL_wakes_22 : decode cL_wakes 22 = .ok (.bipush 10, 2) := by decide +kernel
theorem dL_wakes_24 : decode cL_wakes 24 = .ok (.invokestatic 121, 3) := by decide +kernel
theorem dL_wakes_27 : decode cL_wakes 27 = .ok (.iconst 1, 1) := by decide +kernel
theorem dL_wakes_28 : decode cL_wakes 28 = .ok (.isub, 1) := by decide +kernel
theorem dL_wakes_29 : decode cL_wakes 29 = .ok (.goto 11, 3) := by decide +kernel
theorem dL_wakes_32 : decode cL_wakes 32 = .ok (.iload_n 2, 1) := by decide +kernel
theorem dL_wakes_33 : decode cL_wakes 33 = .ok (.iconst 2, 1) := by decide +kernel
theorem dL_wakes_34 : decode cL_wakes 34 = .ok (.ishr, 1) := by decide +kernel
theorem dL_wakes_35 : decode cL_wakes 35 = .ok (.bipush 8, 2) := by decide +kernel
theorem dL_wakes_37 : decode cL_wakes 37 = .ok (.invokestatic 121, 3) := by decide +kernel
theorem dL_wakes_40 : decode cL_wakes 40 = .ok (.istore 5, 2) := by decide +kernel
theorem dL_wakes_42 : decode cL_wakes 42 = .ok (.iload_n 3, 1) := by decide +kernel
theorem dL_wakes_43 : decode cL_wakes 43 = .ok (.ifCond .eq 17, 3) := by decide +kernel
theorem dL_wakes_46 : decode cL_wakes 46 = .ok (.iload_n 2, 1) := by decide +kernel
theorem dL_wakes_47 : decode cL_wakes 47 = .ok (.bipush 6, 2) := by decide +kernel
theorem dL_wakes_49 : decode cL_wakes 49 = .ok (.ishr, 1) := by decide +kernel
theorem dL_wakes_50 : decode cL_wakes 50 = .ok (.bipush 18, 2) := by decide +kernel
theorem dL_wakes_52 : decode cL_wakes 52 = .ok (.invokestatic 121, 3) := by decide +kernel
theorem dL_wakes_55 : decode cL_wakes 55 = .ok (.iconst 1, 1) := by decide +kernel
theorem dL_wakes_56 : decode cL_wakes 56 = .ok (.isub, 1) := by decide +kernel
theorem dL_wakes_57 : decode cL_wakes 57 = .ok (.goto 11, 3) := by decide +kernel
theorem dL_wakes_60 : decode cL_wakes 60 = .ok (.iload_n 2, 1) := by decide +kernel
theorem dL_wakes_61 : decode cL_wakes 61 = .ok (.bipush 6, 2) := by decide +kernel
theorem dL_wakes_63 : decode cL_wakes 63 = .ok (.ishr, 1) := by decide +kernel
theorem dL_wakes_64 : decode cL_wakes 64 = .ok (.iconst 4, 1) := by decide +kernel
theorem dL_wakes_65 : decode cL_wakes 65 = .ok (.invokestatic 121, 3) := by decide +kernel
theorem dL_wakes_68 : decode cL_wakes 68 = .ok (.istore 6, 2) := by decide +kernel
theorem dL_wakes_70 : decode cL_wakes 70 = .ok (.iload_n 3, 1) := by decide +kernel
theorem dL_wakes_71 : decode cL_wakes 71 = .ok (.ifCond .eq 17, 3) := by decide +kernel
theorem dL_wakes_74 : decode cL_wakes 74 = .ok (.iload_n 2, 1) := by decide +kernel
theorem dL_wakes_75 : decode cL_wakes 75 = .ok (.bipush 8, 2) := by decide +kernel
theorem dL_wakes_77 : decode cL_wakes 77 = .ok (.ishr, 1) := by decide +kernel
theorem dL_wakes_78 : decode cL_wakes 78 = .ok (.bipush 18, 2) := by decide +kernel
theorem dL_wakes_80 : decode cL_wakes 80 = .ok (.invokestatic 121, 3) := by decide +kernel
theorem dL_wakes_83 : decode cL_wakes 83 = .ok (.iconst 1, 1) := by decide +kernel
theorem dL_wakes_84 : decode cL_wakes 84 = .ok (.isub, 1) := by decide +kernel
theorem dL_wakes_85 : decode cL_wakes 85 = .ok (.goto 20, 3) := by decide +kernel
theorem dL_wakes_88 : decode cL_wakes 88 = .ok (.iload 6, 2) := by decide +kernel
theorem dL_wakes_90 : decode cL_wakes 90 = .ok (.iconst 1, 1) := by decide +kernel
theorem dL_wakes_91 : decode cL_wakes 91 = .ok (.iadd, 1) := by decide +kernel
theorem dL_wakes_92 : decode cL_wakes 92 = .ok (.iload_n 2, 1) := by decide +kernel
theorem dL_wakes_93 : decode cL_wakes 93 = .ok (.bipush 8, 2) := by decide +kernel
theorem dL_wakes_95 : decode cL_wakes 95 = .ok (.ishr, 1) := by decide +kernel
theorem dL_wakes_96 : decode cL_wakes 96 = .ok (.bipush 15, 2) := by decide +kernel
theorem dL_wakes_98 : decode cL_wakes 98 = .ok (.invokestatic 121, 3) := by decide +kernel
theorem dL_wakes_101 : decode cL_wakes 101 = .ok (.iadd, 1) := by decide +kernel
theorem dL_wakes_102 : decode cL_wakes 102 = .ok (.bipush 16, 2) := by decide +kernel
theorem dL_wakes_104 : decode cL_wakes 104 = .ok (.irem, 1) := by decide +kernel
theorem dL_wakes_105 : decode cL_wakes 105 = .ok (.istore 7, 2) := by decide +kernel
theorem dL_wakes_107 : decode cL_wakes 107 = .ok (.iload_n 3, 1) := by decide +kernel
theorem dL_wakes_108 : decode cL_wakes 108 = .ok (.ifCond .eq 17, 3) := by decide +kernel
theorem dL_wakes_111 : decode cL_wakes 111 = .ok (.iload_n 2, 1) := by decide +kernel
theorem dL_wakes_112 : decode cL_wakes 112 = .ok (.bipush 10, 2) := by decide +kernel
theorem dL_wakes_114 : decode cL_wakes 114 = .ok (.ishr, 1) := by decide +kernel
theorem dL_wakes_115 : decode cL_wakes 115 = .ok (.bipush 11, 2) := by decide +kernel
theorem dL_wakes_117 : decode cL_wakes 117 = .ok (.invokestatic 121, 3) := by decide +kernel
theorem dL_wakes_120 : decode cL_wakes 120 = .ok (.iconst 1, 1) := by decide +kernel
theorem dL_wakes_121 : decode cL_wakes 121 = .ok (.isub, 1) := by decide +kernel
theorem dL_wakes_122 : decode cL_wakes 122 = .ok (.goto 11, 3) := by decide +kernel
theorem dL_wakes_125 : decode cL_wakes 125 = .ok (.iload_n 2, 1) := by decide +kernel
theorem dL_wakes_126 : decode cL_wakes 126 = .ok (.bipush 10, 2) := by decide +kernel
theorem dL_wakes_128 : decode cL_wakes 128 = .ok (.ishr, 1) := by decide +kernel
theorem dL_wakes_129 : decode cL_wakes 129 = .ok (.iconst 3, 1) := by decide +kernel
theorem dL_wakes_130 : decode cL_wakes 130 = .ok (.invokestatic 121, 3) := by decide +kernel
theorem dL_wakes_133 : decode cL_wakes 133 = .ok (.istore 8, 2) := by decide +kernel
theorem dL_wakes_135 : decode cL_wakes 135 = .ok (.iload_n 3, 1) := by decide +kernel
theorem dL_wakes_136 : decode cL_wakes 136 = .ok (.ifCond .eq 17, 3) := by decide +kernel
theorem dL_wakes_139 : decode cL_wakes 139 = .ok (.iload_n 2, 1) := by decide +kernel
theorem dL_wakes_140 : decode cL_wakes 140 = .ok (.bipush 12, 2) := by decide +kernel
theorem dL_wakes_142 : decode cL_wakes 142 = .ok (.ishr, 1) := by decide +kernel
theorem dL_wakes_143 : decode cL_wakes 143 = .ok (.bipush 11, 2) := by decide +kernel
theorem dL_wakes_145 : decode cL_wakes 145 = .ok (.invokestatic 121, 3) := by decide +kernel
theorem dL_wakes_148 : decode cL_wakes 148 = .ok (.iconst 1, 1) := by decide +kernel
theorem dL_wakes_149 : decode cL_wakes 149 = .ok (.isub, 1) := by decide +kernel
theorem dL_wakes_150 : decode cL_wakes 150 = .ok (.goto 11, 3) := by decide +kernel
theorem dL_wakes_153 : decode cL_wakes 153 = .ok (.iload_n 2, 1) := by decide +kernel
theorem dL_wakes_154 : decode cL_wakes 154 = .ok (.bipush 12, 2) := by decide +kernel
theorem dL_wakes_156 : decode cL_wakes 156 = .ok (.ishr, 1) := by decide +kernel
theorem dL_wakes_157 : decode cL_wakes 157 = .ok (.iconst 4, 1) := by decide +kernel
theorem dL_wakes_158 : decode cL_wakes 158 = .ok (.invokestatic 121, 3) := by decide +kernel
theorem dL_wakes_161 : decode cL_wakes 161 = .ok (.istore 9, 2) := by decide +kernel
theorem dL_wakes_163 : decode cL_wakes 163 = .ok (.iload 4, 2) := by decide +kernel
theorem dL_wakes_165 : decode cL_wakes 165 = .ok (.ifCond .eq 9, 3) := by decide +kernel
theorem dL_wakes_168 : decode cL_wakes 168 = .ok (.sipush 255, 3) := by decide +kernel
theorem dL_wakes_171 : decode cL_wakes 171 = .ok (.goto 34, 3) := by decide +kernel
theorem dL_wakes_174 : decode cL_wakes 174 = .ok (.iload_n 3, 1) := by decide +kernel
theorem dL_wakes_175 : decode cL_wakes 175 = .ok (.ifCond .eq 18, 3) := by decide +kernel
theorem dL_wakes_178 : decode cL_wakes 178 = .ok (.iload_n 2, 1) := by decide +kernel
theorem dL_wakes_179 : decode cL_wakes 179 = .ok (.bipush 14, 2) := by decide +kernel
theorem dL_wakes_181 : decode cL_wakes 181 = .ok (.ishr, 1) := by decide +kernel
theorem dL_wakes_182 : decode cL_wakes 182 = .ok (.sipush 260, 3) := by decide +kernel
theorem dL_wakes_185 : decode cL_wakes 185 = .ok (.invokestatic 121, 3) := by decide +kernel
theorem dL_wakes_188 : decode cL_wakes 188 = .ok (.iconst 2, 1) := by decide +kernel
theorem dL_wakes_189 : decode cL_wakes 189 = .ok (.isub, 1) := by decide +kernel
theorem dL_wakes_190 : decode cL_wakes 190 = .ok (.goto 15, 3) := by decide +kernel
theorem dL_wakes_193 : decode cL_wakes 193 = .ok (.iconst 1, 1) := by decide +kernel
theorem dL_wakes_194 : decode cL_wakes 194 = .ok (.iload_n 2, 1) := by decide +kernel
theorem dL_wakes_195 : decode cL_wakes 195 = .ok (.bipush 14, 2) := by decide +kernel
theorem dL_wakes_197 : decode cL_wakes 197 = .ok (.ishr, 1) := by decide +kernel
theorem dL_wakes_198 : decode cL_wakes 198 = .ok (.sipush 255, 3) := by decide +kernel
theorem dL_wakes_201 : decode cL_wakes 201 = .ok (.invokestatic 121, 3) := by decide +kernel
theorem dL_wakes_204 : decode cL_wakes 204 = .ok (.iadd, 1) := by decide +kernel
theorem dL_wakes_205 : decode cL_wakes 205 = .ok (.istore 10, 2) := by decide +kernel
theorem dL_wakes_207 : decode cL_wakes 207 = .ok (.iload 5, 2) := by decide +kernel
theorem dL_wakes_209 : decode cL_wakes 209 = .ok (.ifCond .lt 39, 3) := by decide +kernel
theorem dL_wakes_212 : decode cL_wakes 212 = .ok (.iload 5, 2) := by decide +kernel
theorem dL_wakes_214 : decode cL_wakes 214 = .ok (.bipush 7, 2) := by decide +kernel
theorem dL_wakes_216 : decode cL_wakes 216 = .ok (.if_icmp .gt 32, 3) := by decide +kernel
theorem dL_wakes_219 : decode cL_wakes 219 = .ok (.iload 6, 2) := by decide +kernel
theorem dL_wakes_221 : decode cL_wakes 221 = .ok (.ifCond .lt 27, 3) := by decide +kernel
theorem dL_wakes_224 : decode cL_wakes 224 = .ok (.iload 6, 2) := by decide +kernel
theorem dL_wakes_226 : decode cL_wakes 226 = .ok (.bipush 15, 2) := by decide +kernel
theorem dL_wakes_228 : decode cL_wakes 228 = .ok (.if_icmp .gt 20, 3) := by decide +kernel
theorem dL_wakes_231 : decode cL_wakes 231 = .ok (.iload 4, 2) := by decide +kernel
theorem dL_wakes_233 : decode cL_wakes 233 = .ok (.ifCond .eq 19, 3) := by decide +kernel
theorem dL_wakes_236 : decode cL_wakes 236 = .ok (.iload 7, 2) := by decide +kernel
theorem dL_wakes_238 : decode cL_wakes 238 = .ok (.ifCond .lt 10, 3) := by decide +kernel
theorem dL_wakes_241 : decode cL_wakes 241 = .ok (.iload 7, 2) := by decide +kernel
theorem dL_wakes_243 : decode cL_wakes 243 = .ok (.bipush 15, 2) := by decide +kernel
theorem dL_wakes_245 : decode cL_wakes 245 = .ok (.if_icmp .le 7, 3) := by decide +kernel
theorem dL_wakes_248 : decode cL_wakes 248 = .ok (.iconst 1, 1) := by decide +kernel
theorem dL_wakes_249 : decode cL_wakes 249 = .ok (.goto 4, 3) := by decide +kernel
theorem dL_wakes_252 : decode cL_wakes 252 = .ok (.iconst 0, 1) := by decide +kernel
theorem dL_wakes_253 : decode cL_wakes 253 = .ok (.istore 11, 2) := by decide +kernel
theorem dL_wakes_255 : decode cL_wakes 255 = .ok (.iload 4, 2) := by decide +kernel
theorem dL_wakes_257 : decode cL_wakes 257 = .ok (.ifCond .eq 42, 3) := by decide +kernel
theorem dL_wakes_260 : decode cL_wakes 260 = .ok (.iload 6, 2) := by decide +kernel
theorem dL_wakes_262 : decode cL_wakes 262 = .ok (.iload 7, 2) := by decide +kernel
theorem dL_wakes_264 : decode cL_wakes 264 = .ok (.if_icmp .eq 27, 3) := by decide +kernel
theorem dL_wakes_267 : decode cL_wakes 267 = .ok (.iload 8, 2) := by decide +kernel
theorem dL_wakes_269 : decode cL_wakes 269 = .ok (.ifCond .lt 22, 3) := by decide +kernel
theorem dL_wakes_272 : decode cL_wakes 272 = .ok (.iload 8, 2) := by decide +kernel
theorem dL_wakes_274 : decode cL_wakes 274 = .ok (.bipush 8, 2) := by decide +kernel
theorem dL_wakes_276 : decode cL_wakes 276 = .ok (.if_icmp .gt 15, 3) := by decide +kernel
theorem dL_wakes_279 : decode cL_wakes 279 = .ok (.iload 9, 2) := by decide +kernel
theorem dL_wakes_281 : decode cL_wakes 281 = .ok (.ifCond .lt 10, 3) := by decide +kernel
theorem dL_wakes_284 : decode cL_wakes 284 = .ok (.iload 9, 2) := by decide +kernel
theorem dL_wakes_286 : decode cL_wakes 286 = .ok (.bipush 8, 2) := by decide +kernel
theorem dL_wakes_288 : decode cL_wakes 288 = .ok (.if_icmp .le 7, 3) := by decide +kernel
theorem dL_wakes_291 : decode cL_wakes 291 = .ok (.iconst 1, 1) := by decide +kernel
theorem dL_wakes_292 : decode cL_wakes 292 = .ok (.goto 39, 3) := by decide +kernel
theorem dL_wakes_295 : decode cL_wakes 295 = .ok (.iconst 0, 1) := by decide +kernel
theorem dL_wakes_296 : decode cL_wakes 296 = .ok (.goto 35, 3) := by decide +kernel
theorem dL_wakes_299 : decode cL_wakes 299 = .ok (.iload 8, 2) := by decide +kernel
theorem dL_wakes_301 : decode cL_wakes 301 = .ok (.iconst 1, 1) := by decide +kernel
theorem dL_wakes_302 : decode cL_wakes 302 = .ok (.if_icmp .lt 24, 3) := by decide +kernel
theorem dL_wakes_305 : decode cL_wakes 305 = .ok (.iload 8, 2) := by decide +kernel
theorem dL_wakes_307 : decode cL_wakes 307 = .ok (.bipush 8, 2) := by decide +kernel
theorem dL_wakes_309 : decode cL_wakes 309 = .ok (.if_icmp .gt 17, 3) := by decide +kernel
theorem dL_wakes_312 : decode cL_wakes 312 = .ok (.iload 10, 2) := by decide +kernel
theorem dL_wakes_314 : decode cL_wakes 314 = .ok (.iconst 1, 1) := by decide +kernel
theorem dL_wakes_315 : decode cL_wakes 315 = .ok (.if_icmp .lt 11, 3) := by decide +kernel
theorem dL_wakes_318 : decode cL_wakes 318 = .ok (.iload 10, 2) := by decide +kernel
theorem dL_wakes_320 : decode cL_wakes 320 = .ok (.sipush 255, 3) := by decide +kernel
theorem dL_wakes_323 : decode cL_wakes 323 = .ok (.if_icmp .le 7, 3) := by decide +kernel
theorem dL_wakes_326 : decode cL_wakes 326 = .ok (.iconst 1, 1) := by decide +kernel
theorem dL_wakes_327 : decode cL_wakes 327 = .ok (.goto 4, 3) := by decide +kernel
theorem dL_wakes_330 : decode cL_wakes 330 = .ok (.iconst 0, 1) := by decide +kernel
theorem dL_wakes_331 : decode cL_wakes 331 = .ok (.istore 12, 2) := by decide +kernel
theorem dL_wakes_333 : decode cL_wakes 333 = .ok (.aload_n 0, 1) := by decide +kernel
theorem dL_wakes_334 : decode cL_wakes 334 = .ok (.invokestatic 147, 3) := by decide +kernel
theorem dL_wakes_337 : decode cL_wakes 337 = .ok (.istore 13, 2) := by decide +kernel
theorem dL_wakes_339 : decode cL_wakes 339 = .ok (.iconst 0, 1) := by decide +kernel
theorem dL_wakes_340 : decode cL_wakes 340 = .ok (.istore 14, 2) := by decide +kernel
theorem dL_wakes_342 : decode cL_wakes 342 = .ok (.iconst 0, 1) := by decide +kernel
theorem dL_wakes_343 : decode cL_wakes 343 = .ok (.istore 15, 2) := by decide +kernel
theorem dL_wakes_345 : decode cL_wakes 345 = .ok (.lconst 0, 1) := by decide +kernel
theorem dL_wakes_346 : decode cL_wakes 346 = .ok (.lstore 16, 2) := by decide +kernel
theorem dL_wakes_348 : decode cL_wakes 348 = .ok (.lconst 0, 1) := by decide +kernel
theorem dL_wakes_349 : decode cL_wakes 349 = .ok (.lstore 18, 2) := by decide +kernel
theorem dL_wakes_351 : decode cL_wakes 351 = .ok (.iconst 0, 1) := by decide +kernel
theorem dL_wakes_352 : decode cL_wakes 352 = .ok (.istore 20, 2) := by decide +kernel
theorem dL_wakes_354 : decode cL_wakes 354 = .ok (.iload 11, 2) := by decide +kernel
theorem dL_wakes_356 : decode cL_wakes 356 = .ok (.ifCond .ne 129, 3) := by decide +kernel
theorem dL_wakes_359 : decode cL_wakes 359 = .ok (.iload 12, 2) := by decide +kernel
theorem dL_wakes_361 : decode cL_wakes 361 = .ok (.ifCond .ne 124, 3) := by decide +kernel
theorem dL_wakes_364 : decode cL_wakes 364 = .ok (.iload 20, 2) := by decide +kernel
theorem dL_wakes_366 : decode cL_wakes 366 = .ok (.aload_n 0, 1) := by decide +kernel
theorem dL_wakes_367 : decode cL_wakes 367 = .ok (.iload 6, 2) := by decide +kernel
theorem dL_wakes_369 : decode cL_wakes 369 = .ok (.invokevirtual 112, 3) := by decide +kernel
theorem dL_wakes_372 : decode cL_wakes 372 = .ok (.if_icmp .ge 113, 3) := by decide +kernel
theorem dL_wakes_375 : decode cL_wakes 375 = .ok (.aload_n 0, 1) := by decide +kernel
theorem dL_wakes_376 : decode cL_wakes 376 = .ok (.iload 6, 2) := by decide +kernel
theorem dL_wakes_378 : decode cL_wakes 378 = .ok (.iload 20, 2) := by decide +kernel
theorem dL_wakes_380 : decode cL_wakes 380 = .ok (.invokevirtual 115, 3) := by decide +kernel
theorem dL_wakes_383 : decode cL_wakes 383 = .ok (.istore 21, 2) := by decide +kernel
theorem dL_wakes_385 : decode cL_wakes 385 = .ok (.aload_n 0, 1) := by decide +kernel
theorem dL_wakes_386 : decode cL_wakes 386 = .ok (.iload 21, 2) := by decide +kernel
theorem dL_wakes_388 : decode cL_wakes 388 = .ok (.invokevirtual 73, 3) := by decide +kernel
theorem dL_wakes_391 : decode cL_wakes 391 = .ok (.iconst 1, 1) := by decide +kernel
theorem dL_wakes_392 : decode cL_wakes 392 = .ok (.if_icmp .ne 42, 3) := by decide +kernel
theorem dL_wakes_395 : decode cL_wakes 395 = .ok (.iload 14, 2) := by decide +kernel
theorem dL_wakes_397 : decode cL_wakes 397 = .ok (.iload 8, 2) := by decide +kernel
theorem dL_wakes_399 : decode cL_wakes 399 = .ok (.if_icmp .ge 35, 3) := by decide +kernel
theorem dL_wakes_402 : decode cL_wakes 402 = .ok (.aload_n 1, 1) := by decide +kernel
theorem dL_wakes_403 : decode cL_wakes 403 = .ok (.bipush 8, 2) := by decide +kernel
theorem dL_wakes_405 : decode cL_wakes 405 = .ok (.iload 21, 2) := by decide +kernel
theorem dL_wakes_407 : decode cL_wakes 407 = .ok (.iadd, 1) := by decide +kernel
theorem dL_wakes_408 : decode cL_wakes 408 = .ok (.iaload, 1) := by decide +kernel
theorem dL_wakes_409 : decode cL_wakes 409 = .ok (.iload 10, 2) := by decide +kernel
theorem dL_wakes_411 : decode cL_wakes 411 = .ok (.iand, 1) := by decide +kernel
theorem dL_wakes_412 : decode cL_wakes 412 = .ok (.ifCond .eq 22, 3) := by decide +kernel
theorem dL_wakes_415 : decode cL_wakes 415 = .ok (.lload 16, 2) := by decide +kernel
theorem dL_wakes_417 : decode cL_wakes 417 = .ok (.iload 21, 2) := by decide +kernel
theorem dL_wakes_419 : decode cL_wakes 419 = .ok (.i2l, 1) := by decide +kernel
theorem dL_wakes_420 : decode cL_wakes 420 = .ok (.iconst 4, 1) := by decide +kernel
theorem dL_wakes_421 : decode cL_wakes 421 = .ok (.iload 14, 2) := by decide +kernel
theorem dL_wakes_423 : decode cL_wakes 423 = .ok (.imul, 1) := by decide +kernel
theorem dL_wakes_424 : decode cL_wakes 424 = .ok (.lshl, 1) := by decide +kernel
theorem dL_wakes_425 : decode cL_wakes 425 = .ok (.lor, 1) := by decide +kernel
theorem dL_wakes_426 : decode cL_wakes 426 = .ok (.lstore 16, 2) := by decide +kernel
theorem dL_wakes_428 : decode cL_wakes 428 = .ok (.iinc 14 1, 3) := by decide +kernel
theorem dL_wakes_431 : decode cL_wakes 431 = .ok (.goto 48, 3) := by decide +kernel
theorem dL_wakes_434 : decode cL_wakes 434 = .ok (.aload_n 0, 1) := by decide +kernel
theorem dL_wakes_435 : decode cL_wakes 435 = .ok (.iload 21, 2) := by decide +kernel
theorem dL_wakes_437 : decode cL_wakes 437 = .ok (.invokevirtual 73, 3) := by decide +kernel
theorem dL_wakes_440 : decode cL_wakes 440 = .ok (.iconst 1, 1) := by decide +kernel
theorem dL_wakes_441 : decode cL_wakes 441 = .ok (.if_icmp .ne 38, 3) := by decide +kernel
theorem dL_wakes_444 : decode cL_wakes 444 = .ok (.iload 4, 2) := by decide +kernel
theorem dL_wakes_446 : decode cL_wakes 446 = .ok (.ifCond .eq 33, 3) := by decide +kernel
theorem dL_wakes_449 : decode cL_wakes 449 = .ok (.iload 14, 2) := by decide +kernel
theorem dL_wakes_451 : decode cL_wakes 451 = .ok (.iload 8, 2) := by decide +kernel
theorem dL_wakes_453 : decode cL_wakes 453 = .ok (.if_icmp .ne 26, 3) := by decide +kernel
theorem dL_wakes_456 : decode cL_wakes 456 = .ok (.iload 15, 2) := by decide +kernel
theorem dL_wakes_458 : decode cL_wakes 458 = .ok (.iload 9, 2) := by decide +kernel
theorem dL_wakes_460 : decode cL_wakes 460 = .ok (.if_icmp .ge 19, 3) := by decide +kernel
theorem dL_wakes_463 : decode cL_wakes 463 = .ok (.lload 18, 2) := by decide +kernel
theorem dL_wakes_465 : decode cL_wakes 465 = .ok (.iload 21, 2) := by decide +kernel
theorem dL_wakes_467 : decode cL_wakes 467 = .ok (.i2l, 1) := by decide +kernel
theorem dL_wakes_468 : decode cL_wakes 468 = .ok (.iconst 4, 1) := by decide +kernel
theorem dL_wakes_469 : decode cL_wakes 469 = .ok (.iload 15, 2) := by decide +kernel
theorem dL_wakes_471 : decode cL_wakes 471 = .ok (.imul, 1) := by decide +kernel
theorem dL_wakes_472 : decode cL_wakes 472 = .ok (.lshl, 1) := by decide +kernel
theorem dL_wakes_473 : decode cL_wakes 473 = .ok (.lor, 1) := by decide +kernel
theorem dL_wakes_474 : decode cL_wakes 474 = .ok (.lstore 18, 2) := by decide +kernel
theorem dL_wakes_476 : decode cL_wakes 476 = .ok (.iinc 15 1, 3) := by decide +kernel
theorem dL_wakes_479 : decode cL_wakes 479 = .ok (.iinc 20 1, 3) := by decide +kernel
theorem dL_wakes_482 : decode cL_wakes 482 = .ok (.goto (-128), 3) := by decide +kernel
theorem dL_wakes_485 : decode cL_wakes 485 = .ok (.aload_n 0, 1) := by decide +kernel
theorem dL_wakes_486 : decode cL_wakes 486 = .ok (.iconst (-1), 1) := by decide +kernel
theorem dL_wakes_487 : decode cL_wakes 487 = .ok (.invokestatic 124, 3) := by decide +kernel
theorem dL_wakes_490 : decode cL_wakes 490 = .ok (.lstore 20, 2) := by decide +kernel
theorem dL_wakes_492 : decode cL_wakes 492 = .ok (.iload 11, 2) := by decide +kernel
theorem dL_wakes_494 : decode cL_wakes 494 = .ok (.ifCond .eq 7, 3) := by decide +kernel
theorem dL_wakes_497 : decode cL_wakes 497 = .ok (.iconst 0, 1) := by decide +kernel
theorem dL_wakes_498 : decode cL_wakes 498 = .ok (.goto 9, 3) := by decide +kernel
theorem dL_wakes_501 : decode cL_wakes 501 = .ok (.aload_n 0, 1) := by decide +kernel
theorem dL_wakes_502 : decode cL_wakes 502 = .ok (.iload 6, 2) := by decide +kernel
theorem dL_wakes_504 : decode cL_wakes 504 = .ok (.invokevirtual 106, 3) := by decide +kernel
theorem dL_wakes_507 : decode cL_wakes 507 = .ok (.istore 22, 2) := by decide +kernel
theorem dL_wakes_509 : decode cL_wakes 509 = .ok (.iload 11, 2) := by decide +kernel
theorem dL_wakes_511 : decode cL_wakes 511 = .ok (.ifCond .ne 21, 3) := by decide +kernel
theorem dL_wakes_514 : decode cL_wakes 514 = .ok (.iload 12, 2) := by decide +kernel
theorem dL_wakes_516 : decode cL_wakes 516 = .ok (.ifCond .ne 16, 3) := by decide +kernel
theorem dL_wakes_519 : decode cL_wakes 519 = .ok (.aload_n 0, 1) := by decide +kernel
theorem dL_wakes_520 : decode cL_wakes 520 = .ok (.iload 5, 2) := by decide +kernel
theorem dL_wakes_522 : decode cL_wakes 522 = .ok (.invokevirtual 73, 3) := by decide +kernel
theorem dL_wakes_525 : decode cL_wakes 525 = .ok (.ifCond .ne 7, 3) := by decide +kernel
theorem dL_wakes_528 : decode cL_wakes 528 = .ok (.iconst 1, 1) := by decide +kernel
theorem dL_wakes_529 : decode cL_wakes 529 = .ok (.goto 4, 3) := by decide +kernel
theorem dL_wakes_532 : decode cL_wakes 532 = .ok (.iconst 0, 1) := by decide +kernel
theorem dL_wakes_533 : decode cL_wakes 533 = .ok (.istore 23, 2) := by decide +kernel
theorem dL_wakes_535 : decode cL_wakes 535 = .ok (.iload 4, 2) := by decide +kernel
theorem dL_wakes_537 : decode cL_wakes 537 = .ok (.ifCond .eq 29, 3) := by decide +kernel
theorem dL_wakes_540 : decode cL_wakes 540 = .ok (.iload 23, 2) := by decide +kernel
theorem dL_wakes_542 : decode cL_wakes 542 = .ok (.ifCond .eq 24, 3) := by decide +kernel
theorem dL_wakes_545 : decode cL_wakes 545 = .ok (.aload_n 0, 1) := by decide +kernel
theorem dL_wakes_546 : decode cL_wakes 546 = .ok (.iload 5, 2) := by decide +kernel
theorem dL_wakes_548 : decode cL_wakes 548 = .ok (.iload 6, 2) := by decide +kernel
theorem dL_wakes_550 : decode cL_wakes 550 = .ok (.iload 22, 2) := by decide +kernel
theorem dL_wakes_552 : decode cL_wakes 552 = .ok (.iconst 1, 1) := by decide +kernel
theorem dL_wakes_553 : decode cL_wakes 553 = .ok (.iadd, 1) := by decide +kernel
theorem dL_wakes_554 : decode cL_wakes 554 = .ok (.iload 8, 2) := by decide +kernel
theorem dL_wakes_556 : decode cL_wakes 556 = .ok (.iload 7, 2) := by decide +kernel
theorem dL_wakes_558 : decode cL_wakes 558 = .ok (.iload 9, 2) := by decide +kernel
theorem dL_wakes_560 : decode cL_wakes 560 = .ok (.invokestatic 151, 3) := by decide +kernel
theorem dL_wakes_563 : decode cL_wakes 563 = .ok (.goto 4, 3) := by decide +kernel
theorem dL_wakes_566 : decode cL_wakes 566 = .ok (.iconst (-1), 1) := by decide +kernel
theorem dL_wakes_567 : decode cL_wakes 567 = .ok (.istore 24, 2) := by decide +kernel
theorem dL_wakes_569 : decode cL_wakes 569 = .ok (.iload 24, 2) := by decide +kernel
theorem dL_wakes_571 : decode cL_wakes 571 = .ok (.iconst (-1), 1) := by decide +kernel
theorem dL_wakes_572 : decode cL_wakes 572 = .ok (.if_icmp .ne 14, 3) := by decide +kernel
theorem dL_wakes_575 : decode cL_wakes 575 = .ok (.aload_n 0, 1) := by decide +kernel
theorem dL_wakes_576 : decode cL_wakes 576 = .ok (.iconst (-1), 1) := by decide +kernel
theorem dL_wakes_577 : decode cL_wakes 577 = .ok (.invokestatic 124, 3) := by decide +kernel
theorem dL_wakes_580 : decode cL_wakes 580 = .ok (.lload 20, 2) := by decide +kernel
theorem dL_wakes_582 : decode cL_wakes 582 = .ok (.lcmp, 1) := by decide +kernel
theorem dL_wakes_583 : decode cL_wakes 583 = .ok (.ifCond .eq 5, 3) := by decide +kernel
theorem dL_wakes_586 : decode cL_wakes 586 = .ok (.iconst 0, 1) := by decide +kernel
theorem dL_wakes_587 : decode cL_wakes 587 = .ok (.ireturn, 1) := by decide +kernel
theorem dL_wakes_588 : decode cL_wakes 588 = .ok (.iload 4, 2) := by decide +kernel
theorem dL_wakes_590 : decode cL_wakes 590 = .ok (.ifCond .eq 22, 3) := by decide +kernel
theorem dL_wakes_593 : decode cL_wakes 593 = .ok (.aload_n 0, 1) := by decide +kernel
theorem dL_wakes_594 : decode cL_wakes 594 = .ok (.iload 5, 2) := by decide +kernel
theorem dL_wakes_596 : decode cL_wakes 596 = .ok (.iload 6, 2) := by decide +kernel
theorem dL_wakes_598 : decode cL_wakes 598 = .ok (.iload 22, 2) := by decide +kernel
theorem dL_wakes_600 : decode cL_wakes 600 = .ok (.iload 8, 2) := by decide +kernel
theorem dL_wakes_602 : decode cL_wakes 602 = .ok (.iload 7, 2) := by decide +kernel
theorem dL_wakes_604 : decode cL_wakes 604 = .ok (.iload 9, 2) := by decide +kernel
theorem dL_wakes_606 : decode cL_wakes 606 = .ok (.invokestatic 151, 3) := by decide +kernel
theorem dL_wakes_609 : decode cL_wakes 609 = .ok (.goto 16, 3) := by decide +kernel
theorem dL_wakes_612 : decode cL_wakes 612 = .ok (.aload_n 0, 1) := by decide +kernel
theorem dL_wakes_613 : decode cL_wakes 613 = .ok (.iconst 2, 1) := by decide +kernel
theorem dL_wakes_614 : decode cL_wakes 614 = .ok (.iload 5, 2) := by decide +kernel
theorem dL_wakes_616 : decode cL_wakes 616 = .ok (.iload 6, 2) := by decide +kernel
theorem dL_wakes_618 : decode cL_wakes 618 = .ok (.iload 8, 2) := by decide +kernel
theorem dL_wakes_620 : decode cL_wakes 620 = .ok (.iload 10, 2) := by decide +kernel
theorem dL_wakes_622 : decode cL_wakes 622 = .ok (.invokestatic 131, 3) := by decide +kernel
theorem dL_wakes_625 : decode cL_wakes 625 = .ok (.istore 25, 2) := by decide +kernel
theorem dL_wakes_627 : decode cL_wakes 627 = .ok (.iload 23, 2) := by decide +kernel
theorem dL_wakes_629 : decode cL_wakes 629 = .ok (.ifCond .ne 47, 3) := by decide +kernel
theorem dL_wakes_632 : decode cL_wakes 632 = .ok (.iload 25, 2) := by decide +kernel
theorem dL_wakes_634 : decode cL_wakes 634 = .ok (.iload 11, 2) := by decide +kernel
theorem dL_wakes_636 : decode cL_wakes 636 = .ok (.ifCond .eq 8, 3) := by decide +kernel
theorem dL_wakes_639 : decode cL_wakes 639 = .ok (.ldc 17, 2) := by decide +kernel
theorem dL_wakes_641 : decode cL_wakes 641 = .ok (.goto 15, 3) := by decide +kernel
theorem dL_wakes_644 : decode cL_wakes 644 = .ok (.iload 12, 2) := by decide +kernel
theorem dL_wakes_646 : decode cL_wakes 646 = .ok (.ifCond .eq 8, 3) := by decide +kernel
theorem dL_wakes_649 : decode cL_wakes 649 = .ok (.ldc 20, 2) := by decide +kernel
theorem dL_wakes_651 : decode cL_wakes 651 = .ok (.goto 5, 3) := by decide +kernel
theorem dL_wakes_654 : decode cL_wakes 654 = .ok (.ldc 23, 2) := by decide +kernel
theorem dL_wakes_656 : decode cL_wakes 656 = .ok (.if_icmp .ne 18, 3) := by decide +kernel
theorem dL_wakes_659 : decode cL_wakes 659 = .ok (.aload_n 0, 1) := by decide +kernel
theorem dL_wakes_660 : decode cL_wakes 660 = .ok (.iconst (-1), 1) := by decide +kernel
theorem dL_wakes_661 : decode cL_wakes 661 = .ok (.invokestatic 124, 3) := by decide +kernel
theorem dL_wakes_664 : decode cL_wakes 664 = .ok (.lload 20, 2) := by decide +kernel
theorem dL_wakes_666 : decode cL_wakes 666 = .ok (.lcmp, 1) := by decide +kernel
theorem dL_wakes_667 : decode cL_wakes 667 = .ok (.ifCond .ne 7, 3) := by decide +kernel
theorem dL_wakes_670 : decode cL_wakes 670 = .ok (.iconst 1, 1) := by decide +kernel
theorem dL_wakes_671 : decode cL_wakes 671 = .ok (.goto 4, 3) := by decide +kernel
theorem dL_wakes_674 : decode cL_wakes 674 = .ok (.iconst 0, 1) := by decide +kernel
theorem dL_wakes_675 : decode cL_wakes 675 = .ok (.ireturn, 1) := by decide +kernel
theorem dL_wakes_676 : decode cL_wakes 676 = .ok (.iload 25, 2) := by decide +kernel
theorem dL_wakes_678 : decode cL_wakes 678 = .ok (.iload 14, 2) := by decide +kernel
theorem dL_wakes_680 : decode cL_wakes 680 = .ok (.iload 15, 2) := by decide +kernel
theorem dL_wakes_682 : decode cL_wakes 682 = .ok (.iadd, 1) := by decide +kernel
theorem dL_wakes_683 : decode cL_wakes 683 = .ok (.if_icmp .ne 7, 3) := by decide +kernel
theorem dL_wakes_686 : decode cL_wakes 686 = .ok (.iconst 1, 1) := by decide +kernel
theorem dL_wakes_687 : decode cL_wakes 687 = .ok (.goto 4, 3) := by decide +kernel
theorem dL_wakes_690 : decode cL_wakes 690 = .ok (.iconst 0, 1) := by decide +kernel
theorem dL_wakes_691 : decode cL_wakes 691 = .ok (.istore 26, 2) := by decide +kernel
theorem dL_wakes_693 : decode cL_wakes 693 = .ok (.iconst 0, 1) := by decide +kernel
theorem dL_wakes_694 : decode cL_wakes 694 = .ok (.istore 27, 2) := by decide +kernel
theorem dL_wakes_696 : decode cL_wakes 696 = .ok (.iload 27, 2) := by decide +kernel
theorem dL_wakes_698 : decode cL_wakes 698 = .ok (.iload 14, 2) := by decide +kernel
theorem dL_wakes_700 : decode cL_wakes 700 = .ok (.if_icmp .ge 101, 3) := by decide +kernel
theorem dL_wakes_703 : decode cL_wakes 703 = .ok (.iload 26, 2) := by decide +kernel
theorem dL_wakes_705 : decode cL_wakes 705 = .ok (.ifCond .eq 96, 3) := by decide +kernel
theorem dL_wakes_708 : decode cL_wakes 708 = .ok (.lload 16, 2) := by decide +kernel
theorem dL_wakes_710 : decode cL_wakes 710 = .ok (.iconst 4, 1) := by decide +kernel
theorem dL_wakes_711 : decode cL_wakes 711 = .ok (.iload 27, 2) := by decide +kernel
theorem dL_wakes_713 : decode cL_wakes 713 = .ok (.imul, 1) := by decide +kernel
theorem dL_wakes_714 : decode cL_wakes 714 = .ok (.lshr, 1) := by decide +kernel
theorem dL_wakes_715 : decode cL_wakes 715 = .ok (.ldc2_w 154, 3) := by decide +kernel
theorem dL_wakes_718 : decode cL_wakes 718 = .ok (.land, 1) := by decide +kernel
theorem dL_wakes_719 : decode cL_wakes 719 = .ok (.l2i, 1) := by decide +kernel
theorem dL_wakes_720 : decode cL_wakes 720 = .ok (.istore 28, 2) := by decide +kernel
theorem dL_wakes_722 : decode cL_wakes 722 = .ok (.aload_n 0, 1) := by decide +kernel
theorem dL_wakes_723 : decode cL_wakes 723 = .ok (.iload 28, 2) := by decide +kernel
theorem dL_wakes_725 : decode cL_wakes 725 = .ok (.invokevirtual 73, 3) := by decide +kernel
theorem dL_wakes_728 : decode cL_wakes 728 = .ok (.ifCond .ne 64, 3) := by decide +kernel
theorem dL_wakes_731 : decode cL_wakes 731 = .ok (.aload_n 0, 1) := by decide +kernel
theorem dL_wakes_732 : decode cL_wakes 732 = .ok (.iload 28, 2) := by decide +kernel
theorem dL_wakes_734 : decode cL_wakes 734 = .ok (.invokevirtual 83, 3) := by decide +kernel
theorem dL_wakes_737 : decode cL_wakes 737 = .ok (.ifCond .ne 55, 3) := by decide +kernel
theorem dL_wakes_740 : decode cL_wakes 740 = .ok (.iload 27, 2) := by decide +kernel
theorem dL_wakes_742 : decode cL_wakes 742 = .ok (.ifCond .ne 17, 3) := by decide +kernel
theorem dL_wakes_745 : decode cL_wakes 745 = .ok (.aload_n 0, 1) := by decide +kernel
theorem dL_wakes_746 : decode cL_wakes 746 = .ok (.iload 28, 2) := by decide +kernel
theorem dL_wakes_748 : decode cL_wakes 748 = .ok (.invokevirtual 88, 3) := by decide +kernel
theorem dL_wakes_751 : decode cL_wakes 751 = .ok (.iload 13, 2) := by decide +kernel
theorem dL_wakes_753 : decode cL_wakes 753 = .ok (.if_icmp .le 39, 3) := by decide +kernel
theorem dL_wakes_756 : decode cL_wakes 756 = .ok (.goto 32, 3) := by decide +kernel
theorem dL_wakes_759 : decode cL_wakes 759 = .ok (.aload_n 0, 1) := by decide +kernel
theorem dL_wakes_760 : decode cL_wakes 760 = .ok (.iload 28, 2) := by decide +kernel
theorem dL_wakes_762 : decode cL_wakes 762 = .ok (.invokevirtual 88, 3) := by decide +kernel
theorem dL_wakes_765 : decode cL_wakes 765 = .ok (.aload_n 0, 1) := by decide +kernel
theorem dL_wakes_766 : decode cL_wakes 766 = .ok (.lload 16, 2) := by decide +kernel
theorem dL_wakes_768 : decode cL_wakes 768 = .ok (.iconst 4, 1) := by decide +kernel
theorem dL_wakes_769 : decode cL_wakes 769 = .ok (.iload 27, 2) := by decide +kernel
theorem dL_wakes_771 : decode cL_wakes 771 = .ok (.imul, 1) := by decide +kernel
theorem dL_wakes_772 : decode cL_wakes 772 = .ok (.iconst 4, 1) := by decide +kernel
theorem dL_wakes_773 : decode cL_wakes 773 = .ok (.isub, 1) := by decide +kernel
theorem dL_wakes_774 : decode cL_wakes 774 = .ok (.lshr, 1) := by decide +kernel
theorem dL_wakes_775 : decode cL_wakes 775 = .ok (.ldc2_w 154, 3) := by decide +kernel
theorem dL_wakes_778 : decode cL_wakes 778 = .ok (.land, 1) := by decide +kernel
theorem dL_wakes_779 : decode cL_wakes 779 = .ok (.l2i, 1) := by decide +kernel
theorem dL_wakes_780 : decode cL_wakes 780 = .ok (.invokevirtual 88, 3) := by decide +kernel
theorem dL_wakes_783 : decode cL_wakes 783 = .ok (.iconst 1, 1) := by decide +kernel
theorem dL_wakes_784 : decode cL_wakes 784 = .ok (.iadd, 1) := by decide +kernel
theorem dL_wakes_785 : decode cL_wakes 785 = .ok (.if_icmp .ne 7, 3) := by decide +kernel
theorem dL_wakes_788 : decode cL_wakes 788 = .ok (.iconst 1, 1) := by decide +kernel
theorem dL_wakes_789 : decode cL_wakes 789 = .ok (.goto 4, 3) := by decide +kernel
theorem dL_wakes_792 : decode cL_wakes 792 = .ok (.iconst 0, 1) := by decide +kernel
theorem dL_wakes_793 : decode cL_wakes 793 = .ok (.istore 26, 2) := by decide +kernel
theorem dL_wakes_795 : decode cL_wakes 795 = .ok (.iinc 27 1, 3) := by decide +kernel
theorem dL_wakes_798 : decode cL_wakes 798 = .ok (.goto (-102), 3) := by decide +kernel
theorem dL_wakes_801 : decode cL_wakes 801 = .ok (.iconst 0, 1) := by decide +kernel
theorem dL_wakes_802 : decode cL_wakes 802 = .ok (.istore 27, 2) := by decide +kernel
theorem dL_wakes_804 : decode cL_wakes 804 = .ok (.iload 27, 2) := by decide +kernel
theorem dL_wakes_806 : decode cL_wakes 806 = .ok (.iload 15, 2) := by decide +kernel
theorem dL_wakes_808 : decode cL_wakes 808 = .ok (.if_icmp .ge 93, 3) := by decide +kernel
theorem dL_wakes_811 : decode cL_wakes 811 = .ok (.iload 26, 2) := by decide +kernel
theorem dL_wakes_813 : decode cL_wakes 813 = .ok (.ifCond .eq 88, 3) := by decide +kernel
theorem dL_wakes_816 : decode cL_wakes 816 = .ok (.aload_n 0, 1) := by decide +kernel
theorem dL_wakes_817 : decode cL_wakes 817 = .ok (.lload 18, 2) := by decide +kernel
theorem dL_wakes_819 : decode cL_wakes 819 = .ok (.iconst 4, 1) := by decide +kernel
theorem dL_wakes_820 : decode cL_wakes 820 = .ok (.iload 27, 2) := by decide +kernel
theorem dL_wakes_822 : decode cL_wakes 822 = .ok (.imul, 1) := by decide +kernel
theorem dL_wakes_823 : decode cL_wakes 823 = .ok (.lshr, 1) := by decide +kernel
theorem dL_wakes_824 : decode cL_wakes 824 = .ok (.ldc2_w 154, 3) := by decide +kernel
theorem dL_wakes_827 : decode cL_wakes 827 = .ok (.land, 1) := by decide +kernel
theorem dL_wakes_828 : decode cL_wakes 828 = .ok (.l2i, 1) := by decide +kernel
theorem dL_wakes_829 : decode cL_wakes 829 = .ok (.invokevirtual 73, 3) := by decide +kernel
theorem dL_wakes_832 : decode cL_wakes 832 = .ok (.iconst 1, 1) := by decide +kernel
theorem dL_wakes_833 : decode cL_wakes 833 = .ok (.if_icmp .ne 59, 3) := by decide +kernel
theorem dL_wakes_836 : decode cL_wakes 836 = .ok (.aload_n 0, 1) := by decide +kernel
theorem dL_wakes_837 : decode cL_wakes 837 = .ok (.lload 18, 2) := by decide +kernel
theorem dL_wakes_839 : decode cL_wakes 839 = .ok (.iconst 4, 1) := by decide +kernel
theorem dL_wakes_840 : decode cL_wakes 840 = .ok (.iload 27, 2) := by decide +kernel
theorem dL_wakes_842 : decode cL_wakes 842 = .ok (.imul, 1) := by decide +kernel
theorem dL_wakes_843 : decode cL_wakes 843 = .ok (.lshr, 1) := by decide +kernel
theorem dL_wakes_844 : decode cL_wakes 844 = .ok (.ldc2_w 154, 3) := by decide +kernel
theorem dL_wakes_847 : decode cL_wakes 847 = .ok (.land, 1) := by decide +kernel
theorem dL_wakes_848 : decode cL_wakes 848 = .ok (.l2i, 1) := by decide +kernel
theorem dL_wakes_849 : decode cL_wakes 849 = .ok (.invokevirtual 78, 3) := by decide +kernel
theorem dL_wakes_852 : decode cL_wakes 852 = .ok (.iload 7, 2) := by decide +kernel
theorem dL_wakes_854 : decode cL_wakes 854 = .ok (.if_icmp .ne 38, 3) := by decide +kernel
theorem dL_wakes_857 : decode cL_wakes 857 = .ok (.iload 27, 2) := by decide +kernel
theorem dL_wakes_859 : decode cL_wakes 859 = .ok (.iload 15, 2) := by decide +kernel
theorem dL_wakes_861 : decode cL_wakes 861 = .ok (.iconst 1, 1) := by decide +kernel
theorem dL_wakes_862 : decode cL_wakes 862 = .ok (.isub, 1) := by decide +kernel
theorem dL_wakes_863 : decode cL_wakes 863 = .ok (.if_icmp .lt 25, 3) := by decide +kernel
theorem dL_wakes_866 : decode cL_wakes 866 = .ok (.aload_n 0, 1) := by decide +kernel
theorem dL_wakes_867 : decode cL_wakes 867 = .ok (.aload_n 1, 1) := by decide +kernel
theorem dL_wakes_868 : decode cL_wakes 868 = .ok (.lload 18, 2) := by decide +kernel
theorem dL_wakes_870 : decode cL_wakes 870 = .ok (.iconst 4, 1) := by decide +kernel
theorem dL_wakes_871 : decode cL_wakes 871 = .ok (.iload 27, 2) := by decide +kernel
theorem dL_wakes_873 : decode cL_wakes 873 = .ok (.imul, 1) := by decide +kernel
theorem dL_wakes_874 : decode cL_wakes 874 = .ok (.lshr, 1) := by decide +kernel
theorem dL_wakes_875 : decode cL_wakes 875 = .ok (.ldc2_w 154, 3) := by decide +kernel
theorem dL_wakes_878 : decode cL_wakes 878 = .ok (.land, 1) := by decide +kernel
theorem dL_wakes_879 : decode cL_wakes 879 = .ok (.l2i, 1) := by decide +kernel
theorem dL_wakes_880 : decode cL_wakes 880 = .ok (.iload 7, 2) := by decide +kernel
theorem dL_wakes_882 : decode cL_wakes 882 = .ok (.invokestatic 143, 3) := by decide +kernel
theorem dL_wakes_885 : decode cL_wakes 885 = .ok (.ifCond .eq 7, 3) := by decide +kernel
theorem dL_wakes_888 : decode cL_wakes 888 = .ok (.iconst 1, 1) := by decide +kernel
theorem dL_wakes_889 : decode cL_wakes 889 = .ok (.goto 4, 3) := by decide +kernel
theorem dL_wakes_892 : decode cL_wakes 892 = .ok (.iconst 0, 1) := by decide +kernel
theorem dL_wakes_893 : decode cL_wakes 893 = .ok (.istore 26, 2) := by decide +kernel
theorem dL_wakes_895 : decode cL_wakes 895 = .ok (.iinc 27 1, 3) := by decide +kernel
theorem dL_wakes_898 : decode cL_wakes 898 = .ok (.goto (-94), 3) := by decide +kernel
theorem dL_wakes_901 : decode cL_wakes 901 = .ok (.iload 26, 2) := by decide +kernel
theorem dL_wakes_903 : decode cL_wakes 903 = .ok (.ifCond .eq 18, 3) := by decide +kernel
theorem dL_wakes_906 : decode cL_wakes 906 = .ok (.aload_n 0, 1) := by decide +kernel
theorem dL_wakes_907 : decode cL_wakes 907 = .ok (.iload 6, 2) := by decide +kernel
theorem dL_wakes_909 : decode cL_wakes 909 = .ok (.invokevirtual 106, 3) := by decide +kernel
theorem dL_wakes_912 : decode cL_wakes 912 = .ok (.iload 22, 2) := by decide +kernel
theorem dL_wakes_914 : decode cL_wakes 914 = .ok (.if_icmp .ne 7, 3) := by decide +kernel
theorem dL_wakes_917 : decode cL_wakes 917 = .ok (.iconst 1, 1) := by decide +kernel
theorem dL_wakes_918 : decode cL_wakes 918 = .ok (.goto 4, 3) := by decide +kernel
theorem dL_wakes_921 : decode cL_wakes 921 = .ok (.iconst 0, 1) := by decide +kernel
theorem dL_wakes_922 : decode cL_wakes 922 = .ok (.ireturn, 1) := by decide +kernel
