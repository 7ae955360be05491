set_option maxRecDepth 20000 in
theorem ggL_lives_L_some : GoodIn wsL_lives wsL_some := goodIn_r _ [7] (by decide +kernel) (by decide +kernel)
set_option maxRecDepth 20000 in
theorem gL_lives_L_some : GoodIn wsL_lives (va_wsS RL 121 yL_some wsL_some) := goodIn_app (goodIn_of _ (by decide +kernel)) ggL_lives_L_some
set_option maxRecDepth 20000 in
theorem ggL_lives_X2_stateOf : GoodIn wsL_lives wsX2_stateOf := goodIn_ca (goodIn_r _ [12, 13, 14, 15, 16, 11, 17, 18, 19, 20, 266, 267, 268, 269, 270, 271, 272, 273, 274, 275, 276, 277, 278, 279, 280, 281, 282] (by decide +kernel) (by decide +kernel)) (goodIn_sub (fun _ h => List.mem_cons_of_mem _ (List.mem_append_left _ (List.mem_append_left _ (List.mem_append_right _ h)))) (by decide +kernel))
set_option maxRecDepth 20000 in
theorem gL_lives_X2_stateOf : GoodIn wsL_lives (wsV RL 73 RX2 yX2_stateOf wsX2_stateOf) := goodIn_app (goodIn_of _ (by decide +kernel)) ggL_lives_X2_stateOf
set_option maxRecDepth 20000 in
theorem ggL_lives_X2_addressOf : GoodIn wsL_lives wsX2_addressOf := goodIn_ca (goodIn_r _ [24, 25, 14, 15, 16, 11, 17, 18, 19, 20, 266, 267, 268, 269, 270, 271, 272, 273, 274, 275, 276, 277, 278, 279, 280, 281, 282] (by decide +kernel) (by decide +kernel)) (goodIn_sub (fun _ h => List.mem_cons_of_mem _ (List.mem_append_left _ (List.mem_append_left _ (List.mem_append_right _ h)))) (by decide +kernel))
set_option maxRecDepth 20000 in
theorem gL_lives_X2_addressOf : GoodIn wsL_lives (wsV RL 78 RX2 yX2_addressOf wsX2_addressOf) := goodIn_app (goodIn_of _ (by decide +kernel)) ggL_lives_X2_addressOf
set_option maxRecDepth 20000 in
theorem ggL_lives_L_last : GoodIn wsL_lives wsL_last := goodIn_ca (goodIn_r _ [28, 29, 30, 31, 11, 32, 33, 14, 15, 16, 17, 18, 19, 20, 266, 267, 268, 269, 270, 271, 272, 273, 274, 275, 276, 277, 278, 279, 280, 281, 282] (by decide +kernel) (by decide +kernel)) (goodIn_sub (fun _ h => List.mem_cons_of_mem _ (List.mem_append_left _ (List.mem_append_left _ (List.mem_append_right _ h)))) (by decide +kernel))
set_option maxRecDepth 20000 in
theorem gL_lives_L_last : GoodIn wsL_lives (va_wsS RL 147 yL_last wsL_last) := goodIn_app (goodIn_of _ (by decide +kernel)) ggL_lives_L_last
set_option maxRecDepth 20000 in
theorem ggL_lives_L_threads : GoodIn wsL_lives wsL_threads := goodIn_ca (goodIn_r _ [36, 37, 38, 39, 40, 41, 42, 43, 44, 45, 11, 46, 47, 8, 9, 10, 12, 13, 14, 15, 16, 17, 18, 19, 20, 21, 22, 23, 24, 25, 48, 49, 50, 51, 52, 29, 30, 31, 32, 33, 53, 54, 55, 56, 57, 58, 59, 60, 61, 62, 63, 64, 65, 66, 67, 68, 69, 70, 71, 72, 73, 74, 75, 76, 77, 78, 79, 80, 81, 82, 83, 84, 85, 86, 87, 88, 89, 90, 91, 92, 93, 277, 278, 279, 280, 281, 282, 266, 267, 268, 269, 270, 271, 272, 273, 274, 275, 276, 283, 284] (by decide +kernel) (by decide +kernel)) (goodIn_sub (fun _ h => List.mem_cons_of_mem _ (List.mem_append_left _ (List.mem_append_left _ (List.mem_append_right _ h)))) (by decide +kernel))
set_option maxRecDepth 20000 in
theorem gL_lives_L_threads : GoodIn wsL_lives (va_wsS RL 124 yL_threads wsL_threads) := goodIn_app (goodIn_of _ (by decide +kernel)) ggL_lives_L_threads
set_option maxRecDepth 20000 in
theorem ggL_lives_L_acts : GoodIn wsL_lives wsL_acts := goodIn_ca (goodIn_ca (goodIn_ca (goodIn_r _ [96, 97, 98, 99, 1, 3, 2, 100, 101, 102, 11, 103, 104, 105, 13, 106, 14, 15, 16, 17, 18, 19, 20, 107, 108, 109, 110, 111, 112, 113, 114, 115, 116, 117, 118, 119, 120, 121, 122, 123, 124, 125, 126, 74, 57, 127, 128, 129, 130, 131, 132, 133, 134, 25, 135, 88, 89, 90, 78, 91, 92, 93, 136, 137, 138, 66, 139, 68, 69, 140, 141, 142, 143, 144, 145, 146, 147, 148, 149, 150, 151, 152, 153, 154, 155, 47, 156, 157, 158, 159, 160, 161, 162, 163, 164, 165, 166, 167, 168, 169, 170, 171, 172, 173, 174, 175, 176, 177, 178, 179, 180, 52, 181, 33, 182, 183, 184, 185, 186, 187, 188, 189, 190, 191, 192, 193, 194, 195, 196, 197, 198, 58, 199, 200, 201, 75, 76, 77, 79, 80, 63, 64, 65, 67, 202, 203, 204, 205, 206, 207, 208, 209, 210, 211, 212, 213, 214, 215, 216, 217, 218, 219, 220, 221, 222, 223, 224, 225, 226, 227, 228, 229, 230, 6, 231, 232, 233, 234, 235, 236, 237, 238, 239, 277, 278, 279, 280, 281, 282, 266, 267, 268, 269, 270, 271, 272, 273, 274, 275, 276, 283, 284] (by decide +kernel) (by decide +kernel)) (goodIn_sub (fun _ h => List.mem_cons_of_mem _ (List.mem_append_left _ (List.mem_append_left _ (List.mem_append_right _ h)))) (by decide +kernel))) (goodIn_sub (fun _ h => List.mem_cons_of_mem _ (List.mem_append_left _ (List.mem_append_right _ h))) (by decide +kernel))) (goodIn_sub (fun _ h => List.mem_cons_of_mem _ (List.mem_append_right _ h)) (by decide +kernel))
set_option maxRecDepth 20000 in
theorem gL_lives_L_acts : GoodIn wsL_lives (va_wsS RL 131 yL_acts wsL_acts) := goodIn_app (goodIn_of _ (by decide +kernel)) ggL_lives_L_acts
set_option maxRecDepth 20000 in
theorem ggL_lives_X2_resultOf : GoodIn wsL_lives wsX2_resultOf := goodIn_ca (goodIn_r _ [51, 52, 14, 15, 16, 11, 17, 18, 19, 20, 266, 267, 268, 269, 270, 271, 272, 273, 274, 275, 276, 277, 278, 279, 280, 281, 282] (by decide +kernel) (by decide +kernel)) (goodIn_sub (fun _ h => List.mem_cons_of_mem _ (List.mem_append_left _ (List.mem_append_left _ (List.mem_append_right _ h)))) (by decide +kernel))
set_option maxRecDepth 20000 in
theorem gL_lives_X2_resultOf : GoodIn wsL_lives (wsV RL 83 RX2 yX2_resultOf wsX2_resultOf) := goodIn_app (goodIn_of _ (by decide +kernel)) ggL_lives_X2_resultOf
set_option maxRecDepth 20000 in
theorem ggL_lives_X2_serialOf : GoodIn wsL_lives wsX2_serialOf := goodIn_ca (goodIn_r _ [32, 33, 14, 15, 16, 11, 17, 18, 19, 20, 266, 267, 268, 269, 270, 271, 272, 273, 274, 275, 276, 277, 278, 279, 280, 281, 282] (by decide +kernel) (by decide +kernel)) (goodIn_sub (fun _ h => List.mem_cons_of_mem _ (List.mem_append_left _ (List.mem_append_left _ (List.mem_append_right _ h)))) (by decide +kernel))
set_option maxRecDepth 20000 in
theorem gL_lives_X2_serialOf : GoodIn wsL_lives (wsV RL 88 RX2 yX2_serialOf wsX2_serialOf) := goodIn_app (goodIn_of _ (by decide +kernel)) ggL_lives_X2_serialOf
set_option maxRecDepth 20000 in
theorem ggL_lives_X2_word : GoodIn wsL_lives wsX2_word := goodIn_ca (goodIn_r _ [243, 104, 107, 108, 11, 109, 18, 19, 110, 111, 112, 277, 278, 279, 280, 281, 282] (by decide +kernel) (by decide +kernel)) (goodIn_sub (fun _ h => List.mem_cons_of_mem _ (List.mem_append_left _ (List.mem_append_left _ (List.mem_append_right _ h)))) (by decide +kernel))
set_option maxRecDepth 20000 in
theorem gL_lives_X2_word : GoodIn wsL_lives (wsV RL 106 RX2 yX2_word wsX2_word) := goodIn_app (goodIn_of _ (by decide +kernel)) ggL_lives_X2_word
set_option maxRecDepth 20000 in
theorem ggL_lives_X2_waiters : GoodIn wsL_lives wsX2_waiters := goodIn_ca (goodIn_r _ [247, 20, 25, 107, 108, 11, 109, 18, 19, 110, 111, 112, 277, 278, 279, 280, 281, 282, 266, 267, 268, 269, 270, 271, 272, 273, 274, 275, 276] (by decide +kernel) (by decide +kernel)) (goodIn_sub (fun _ h => List.mem_cons_of_mem _ (List.mem_append_left _ (List.mem_append_left _ (List.mem_append_right _ h)))) (by decide +kernel))
set_option maxRecDepth 20000 in
theorem gL_lives_X2_waiters : GoodIn wsL_lives (wsV RL 112 RX2 yX2_waiters wsX2_waiters) := goodIn_app (goodIn_of _ (by decide +kernel)) ggL_lives_X2_waiters
set_option maxRecDepth 20000 in
theorem ggL_lives_X2_locks : GoodIn wsL_lives wsX2_locks := goodIn_ca (goodIn_r _ [56, 57, 58, 14, 15, 16, 11, 17, 18, 19, 20, 266, 267, 268, 269, 270, 271, 272, 273, 274, 275, 276, 283, 284, 277, 278, 279, 280, 281, 282] (by decide +kernel) (by decide +kernel)) (goodIn_sub (fun _ h => List.mem_cons_of_mem _ (List.mem_append_left _ (List.mem_append_left _ (List.mem_append_right _ h)))) (by decide +kernel))
set_option maxRecDepth 20000 in
theorem gL_lives_X2_locks : GoodIn wsL_lives (wsV RL 91 RX2 yX2_locks wsX2_locks) := goodIn_app (goodIn_of _ (by decide +kernel)) ggL_lives_X2_locks
set_option maxRecDepth 20000 in
theorem ggL_lives_X2_waiterAt : GoodIn wsL_lives wsX2_waiterAt := goodIn_ca (goodIn_r _ [251, 18, 19, 20, 25, 74, 107, 108, 11, 109, 110, 111, 112, 252, 253, 254, 255, 88, 89, 90, 78, 91, 92, 93, 277, 278, 279, 280, 281, 282, 266, 267, 268, 269, 270, 271, 272, 273, 274, 275, 276] (by decide +kernel) (by decide +kernel)) (goodIn_sub (fun _ h => List.mem_cons_of_mem _ (List.mem_append_left _ (List.mem_append_left _ (List.mem_append_right _ h)))) (by decide +kernel))
set_option maxRecDepth 20000 in
theorem gL_lives_X2_waiterAt : GoodIn wsL_lives (wsV RL 115 RX2 yX2_waiterAt wsX2_waiterAt) := goodIn_app (goodIn_of _ (by decide +kernel)) ggL_lives_X2_waiterAt
set_option maxRecDepth 20000 in
theorem ggL_lives_L_joined : GoodIn wsL_lives wsL_joined := goodIn_ca (goodIn_r _ [258, 259, 260, 6, 261, 70, 71, 72, 11, 73, 18, 19, 20, 25, 74, 75, 76, 77, 78, 79, 80, 81, 82, 83, 84, 85, 86, 87, 88, 89, 90, 91, 92, 93, 21, 22, 23, 24, 14, 15, 16, 17, 277, 278, 279, 280, 281, 282, 266, 267, 268, 269, 270, 271, 272, 273, 274, 275, 276] (by decide +kernel) (by decide +kernel)) (goodIn_sub (fun _ h => List.mem_cons_of_mem _ (List.mem_append_left _ (List.mem_append_left _ (List.mem_append_right _ h)))) (by decide +kernel))
set_option maxRecDepth 20000 in
theorem gL_lives_L_joined : GoodIn wsL_lives (va_wsS RL 143 yL_joined wsL_joined) := goodIn_app (goodIn_of _ (by decide +kernel)) ggL_lives_L_joined
set_option maxRecDepth 20000 in
theorem ggL_lives_X2_nextTimeout : GoodIn wsL_lives wsX2_nextTimeout := goodIn_r _ [265, 156, 47, 215, 216, 217, 11, 218, 20, 219, 220, 221, 78, 222, 223, 224, 266, 267, 268, 269, 270, 271, 272, 273, 274, 275, 276, 277, 278, 279, 280, 281, 282] (by decide +kernel) (by decide +kernel)
set_option maxRecDepth 20000 in
theorem gL_lives_X2_nextTimeout : GoodIn wsL_lives (wsV RL 118 RX2 yX2_nextTimeout wsX2_nextTimeout) := goodIn_app (goodIn_of _ (by decide +kernel)) ggL_lives_X2_nextTimeout
set_option maxRecDepth 20000 in
theorem ggL_lives_X2_now : GoodIn wsL_lives wsX2_now := goodIn_r _ [46, 47, 277, 278, 279, 280, 281, 282] (by decide +kernel) (by decide +kernel)
set_option maxRecDepth 20000 in
theorem gL_lives_X2_now : GoodIn wsL_lives (wsV RL 67 RX2 yX2_now wsX2_now) := goodIn_app (goodIn_of _ (by decide +kernel)) ggL_lives_X2_now
theorem dL_lives_0 : decode cL_lives 0 = .ok (.iload_n 2, 1) := by decide +kernel
theorem dL_lives_1 : decode cL_lives 1 = .ok (.bipush 12, 2) := by decide +kernel
theorem dL_lives_3 : decode cL_lives 3 = .ok (.invokestatic 121, 3) := by decide +kernel
theorem dL_lives_6 : decode cL_lives 6 = .ok (.istore 4, 2) := by decide +kernel
theorem dL_lives_8 : decode cL_lives 8 = .ok (.iload_n 3, 1) := by decide +kernel
theorem dL_lives_9 : decode cL_lives 9 = .ok (.ifCond .eq 16, 3) := by decide +kernel
theorem dL_lives_12 : decode cL_lives 12 = .ok (.iload_n 2, 1) := by decide +kernel
theorem dL_lives_13 : decode cL_lives 13 = .ok (.iconst 2, 1) := by decide +kernel
theorem dL_lives_14 : decode cL_lives 14 = .ok (.ishr, 1) := by decide +kernel
theorem dL_lives_15 : decode cL_lives 15 = .ok (.bipush 10, 2) := by decide +kernel
theorem dL_lives_17 : decode cL_lives 17 = .ok (.invokestatic 121, 3) := by decide +kernel
theorem dL_lives_20 : decode cL_lives 20 = .ok (.iconst 1, 1) := by decide +kernel
theorem dL_lives_21 : decode cL_lives 21 = .ok (.isub, 1) := by decide +kernel
theorem dL_lives_22 : decode cL_lives 22 = .ok (.goto 11, 3) := by decide +kernel
theorem dL_lives_25 : decode cL_lives 25 = .ok (.iload_n 2, 1) := by decide +kernel
theorem dL_lives_26 : decode cL_lives 26 = .ok (.iconst 2, 1) := by decide +kernel
theorem dL_lives_27 : decode cL_lives 27 = .ok (.ishr, 1) := by decide +kernel
theorem dL_lives_28 : decode cL_lives 28 = .ok (.bipush 8, 2) := by decide +kernel
theorem dL_lives_30 : decode cL_lives 30 = .ok (.invokestatic 121, 3) := by decide +kernel
theorem dL_lives_33 : decode cL_lives 33 = .ok (.istore 5, 2) := by decide +kernel
theorem dL_lives_35 : decode cL_lives 35 = .ok (.iload 5, 2) := by decide +kernel
theorem dL_lives_37 : decode cL_lives 37 = .ok (.ifCond .lt 10, 3) := by decide +kernel
theorem dL_lives_40 : decode cL_lives 40 = .ok (.iload 5, 2) := by decide +kernel
theorem dL_lives_42 : decode cL_lives 42 = .ok (.bipush 7, 2) := by decide +kernel
theorem dL_lives_44 : decode cL_lives 44 = .ok (.if_icmp .le 7, 3) := by decide +kernel
theorem dL_lives_47 : decode cL_lives 47 = .ok (.iconst 1, 1) := by decide +kernel
theorem dL_lives_48 : decode cL_lives 48 = .ok (.goto 4, 3) := by decide +kernel
theorem dL_lives_51 : decode cL_lives 51 = .ok (.iconst 0, 1) := by decide +kernel
theorem dL_lives_52 : decode cL_lives 52 = .ok (.istore 6, 2) := by decide +kernel
theorem dL_lives_54 : decode cL_lives 54 = .ok (.iload 6, 2) := by decide +kernel
theorem dL_lives_56 : decode cL_lives 56 = .ok (.ifCond .eq 7, 3) := by decide +kernel
theorem dL_lives_59 : decode cL_lives 59 = .ok (.iconst 0, 1) := by decide +kernel
theorem dL_lives_60 : decode cL_lives 60 = .ok (.goto 9, 3) := by decide +kernel
theorem dL_lives_63 : decode cL_lives 63 = .ok (.aload_n 0, 1) := by decide +kernel
theorem dL_lives_64 : decode cL_lives 64 = .ok (.iload 5, 2) := by decide +kernel
theorem dL_lives_66 : decode cL_lives 66 = .ok (.invokevirtual 73, 3) := by decide +kernel
theorem dL_lives_69 : decode cL_lives 69 = .ok (.istore 7, 2) := by decide +kernel
theorem dL_lives_71 : decode cL_lives 71 = .ok (.iload 6, 2) := by decide +kernel
theorem dL_lives_73 : decode cL_lives 73 = .ok (.ifCond .eq 7, 3) := by decide +kernel
theorem dL_lives_76 : decode cL_lives 76 = .ok (.iconst (-1), 1) := by decide +kernel
theorem dL_lives_77 : decode cL_lives 77 = .ok (.goto 9, 3) := by decide +kernel
theorem dL_lives_80 : decode cL_lives 80 = .ok (.aload_n 0, 1) := by decide +kernel
theorem dL_lives_81 : decode cL_lives 81 = .ok (.iload 5, 2) := by decide +kernel
theorem dL_lives_83 : decode cL_lives 83 = .ok (.invokevirtual 78, 3) := by decide +kernel
theorem dL_lives_86 : decode cL_lives 86 = .ok (.istore 8, 2) := by decide +kernel
theorem dL_lives_88 : decode cL_lives 88 = .ok (.aload_n 0, 1) := by decide +kernel
theorem dL_lives_89 : decode cL_lives 89 = .ok (.invokestatic 147, 3) := by decide +kernel
theorem dL_lives_92 : decode cL_lives 92 = .ok (.istore 9, 2) := by decide +kernel
theorem dL_lives_94 : decode cL_lives 94 = .ok (.aload_n 0, 1) := by decide +kernel
theorem dL_lives_95 : decode cL_lives 95 = .ok (.iconst (-1), 1) := by decide +kernel
theorem dL_lives_96 : decode cL_lives 96 = .ok (.invokestatic 124, 3) := by decide +kernel
theorem dL_lives_99 : decode cL_lives 99 = .ok (.lstore 10, 2) := by decide +kernel
theorem dL_lives_101 : decode cL_lives 101 = .ok (.aload_n 0, 1) := by decide +kernel
theorem dL_lives_102 : decode cL_lives 102 = .ok (.iload 6, 2) := by decide +kernel
theorem dL_lives_104 : decode cL_lives 104 = .ok (.ifCond .eq 7, 3) := by decide +kernel
theorem dL_lives_107 : decode cL_lives 107 = .ok (.iconst (-1), 1) := by decide +kernel
theorem dL_lives_108 : decode cL_lives 108 = .ok (.goto 5, 3) := by decide +kernel
theorem dL_lives_111 : decode cL_lives 111 = .ok (.iload 5, 2) := by decide +kernel
theorem dL_lives_113 : decode cL_lives 113 = .ok (.invokestatic 124, 3) := by decide +kernel
theorem dL_lives_116 : decode cL_lives 116 = .ok (.lstore 12, 2) := by decide +kernel
theorem dL_lives_118 : decode cL_lives 118 = .ok (.iload 4, 2) := by decide +kernel
theorem dL_lives_120 : decode cL_lives 120 = .ok (.iconst 3, 1) := by decide +kernel
theorem dL_lives_121 : decode cL_lives 121 = .ok (.if_icmp .ge 143, 3) := by decide +kernel
theorem dL_lives_124 : decode cL_lives 124 = .ok (.aload_n 0, 1) := by decide +kernel
theorem dL_lives_125 : decode cL_lives 125 = .ok (.bipush 8, 2) := by decide +kernel
theorem dL_lives_127 : decode cL_lives 127 = .ok (.iload 5, 2) := by decide +kernel
theorem dL_lives_129 : decode cL_lives 129 = .ok (.iconst 0, 1) := by decide +kernel
theorem dL_lives_130 : decode cL_lives 130 = .ok (.iconst 0, 1) := by decide +kernel
theorem dL_lives_131 : decode cL_lives 131 = .ok (.iconst 0, 1) := by decide +kernel
theorem dL_lives_132 : decode cL_lives 132 = .ok (.invokestatic 131, 3) := by decide +kernel
theorem dL_lives_135 : decode cL_lives 135 = .ok (.istore 14, 2) := by decide +kernel
theorem dL_lives_137 : decode cL_lives 137 = .ok (.iload 6, 2) := by decide +kernel
theorem dL_lives_139 : decode cL_lives 139 = .ok (.ifCond .ne 14, 3) := by decide +kernel
theorem dL_lives_142 : decode cL_lives 142 = .ok (.iload 7, 2) := by decide +kernel
theorem dL_lives_144 : decode cL_lives 144 = .ok (.ifCond .eq 9, 3) := by decide +kernel
theorem dL_lives_147 : decode cL_lives 147 = .ok (.iload 7, 2) := by decide +kernel
theorem dL_lives_149 : decode cL_lives 149 = .ok (.iconst 3, 1) := by decide +kernel
theorem dL_lives_150 : decode cL_lives 150 = .ok (.if_icmp .ne 37, 3) := by decide +kernel
theorem dL_lives_153 : decode cL_lives 153 = .ok (.iload 14, 2) := by decide +kernel
theorem dL_lives_155 : decode cL_lives 155 = .ok (.iload 6, 2) := by decide +kernel
theorem dL_lives_157 : decode cL_lives 157 = .ok (.ifCond .eq 8, 3) := by decide +kernel
theorem dL_lives_160 : decode cL_lives 160 = .ok (.ldc 17, 2) := by decide +kernel
theorem dL_lives_162 : decode cL_lives 162 = .ok (.goto 5, 3) := by decide +kernel
theorem dL_lives_165 : decode cL_lives 165 = .ok (.ldc 23, 2) := by decide +kernel
theorem dL_lives_167 : decode cL_lives 167 = .ok (.if_icmp .ne 18, 3) := by decide +kernel
theorem dL_lives_170 : decode cL_lives 170 = .ok (.aload_n 0, 1) := by decide +kernel
theorem dL_lives_171 : decode cL_lives 171 = .ok (.iconst (-1), 1) := by decide +kernel
theorem dL_lives_172 : decode cL_lives 172 = .ok (.invokestatic 124, 3) := by decide +kernel
theorem dL_lives_175 : decode cL_lives 175 = .ok (.lload 10, 2) := by decide +kernel
theorem dL_lives_177 : decode cL_lives 177 = .ok (.lcmp, 1) := by decide +kernel
theorem dL_lives_178 : decode cL_lives 178 = .ok (.ifCond .ne 7, 3) := by decide +kernel
theorem dL_lives_181 : decode cL_lives 181 = .ok (.iconst 1, 1) := by decide +kernel
theorem dL_lives_182 : decode cL_lives 182 = .ok (.goto 4, 3) := by decide +kernel
theorem dL_lives_185 : decode cL_lives 185 = .ok (.iconst 0, 1) := by decide +kernel
theorem dL_lives_186 : decode cL_lives 186 = .ok (.ireturn, 1) := by decide +kernel
theorem dL_lives_187 : decode cL_lives 187 = .ok (.iload 14, 2) := by decide +kernel
theorem dL_lives_189 : decode cL_lives 189 = .ok (.ifCond .ne 73, 3) := by decide +kernel
theorem dL_lives_192 : decode cL_lives 192 = .ok (.aload_n 0, 1) := by decide +kernel
theorem dL_lives_193 : decode cL_lives 193 = .ok (.iload 5, 2) := by decide +kernel
theorem dL_lives_195 : decode cL_lives 195 = .ok (.invokevirtual 73, 3) := by decide +kernel
theorem dL_lives_198 : decode cL_lives 198 = .ok (.ifCond .ne 64, 3) := by decide +kernel
theorem dL_lives_201 : decode cL_lives 201 = .ok (.aload_n 0, 1) := by decide +kernel
theorem dL_lives_202 : decode cL_lives 202 = .ok (.iload 5, 2) := by decide +kernel
theorem dL_lives_204 : decode cL_lives 204 = .ok (.invokevirtual 83, 3) := by decide +kernel
theorem dL_lives_207 : decode cL_lives 207 = .ok (.iconst 2, 1) := by decide +kernel
theorem dL_lives_208 : decode cL_lives 208 = .ok (.if_icmp .ne 54, 3) := by decide +kernel
theorem dL_lives_211 : decode cL_lives 211 = .ok (.aload_n 0, 1) := by decide +kernel
theorem dL_lives_212 : decode cL_lives 212 = .ok (.iload 5, 2) := by decide +kernel
theorem dL_lives_214 : decode cL_lives 214 = .ok (.invokevirtual 88, 3) := by decide +kernel
theorem dL_lives_217 : decode cL_lives 217 = .ok (.iload 9, 2) := by decide +kernel
theorem dL_lives_219 : decode cL_lives 219 = .ok (.if_icmp .le 43, 3) := by decide +kernel
theorem dL_lives_222 : decode cL_lives 222 = .ok (.aload_n 0, 1) := by decide +kernel
theorem dL_lives_223 : decode cL_lives 223 = .ok (.iload 5, 2) := by decide +kernel
theorem dL_lives_225 : decode cL_lives 225 = .ok (.invokestatic 124, 3) := by decide +kernel
theorem dL_lives_228 : decode cL_lives 228 = .ok (.lload 12, 2) := by decide +kernel
theorem dL_lives_230 : decode cL_lives 230 = .ok (.lcmp, 1) := by decide +kernel
theorem dL_lives_231 : decode cL_lives 231 = .ok (.ifCond .ne 31, 3) := by decide +kernel
theorem dL_lives_234 : decode cL_lives 234 = .ok (.iload 7, 2) := by decide +kernel
theorem dL_lives_236 : decode cL_lives 236 = .ok (.iconst 1, 1) := by decide +kernel
theorem dL_lives_237 : decode cL_lives 237 = .ok (.if_icmp .eq 21, 3) := by decide +kernel
theorem dL_lives_240 : decode cL_lives 240 = .ok (.aload_n 0, 1) := by decide +kernel
theorem dL_lives_241 : decode cL_lives 241 = .ok (.iload 8, 2) := by decide +kernel
theorem dL_lives_243 : decode cL_lives 243 = .ok (.invokevirtual 106, 3) := by decide +kernel
theorem dL_lives_246 : decode cL_lives 246 = .ok (.ifCond .ge 12, 3) := by decide +kernel
theorem dL_lives_249 : decode cL_lives 249 = .ok (.aload_n 0, 1) := by decide +kernel
theorem dL_lives_250 : decode cL_lives 250 = .ok (.iload 8, 2) := by decide +kernel
theorem dL_lives_252 : decode cL_lives 252 = .ok (.invokevirtual 112, 3) := by decide +kernel
theorem dL_lives_255 : decode cL_lives 255 = .ok (.ifCond .le 7, 3) := by decide +kernel
theorem dL_lives_258 : decode cL_lives 258 = .ok (.iconst 1, 1) := by decide +kernel
theorem dL_lives_259 : decode cL_lives 259 = .ok (.goto 4, 3) := by decide +kernel
theorem dL_lives_262 : decode cL_lives 262 = .ok (.iconst 0, 1) := by decide +kernel
theorem dL_lives_263 : decode cL_lives 263 = .ok (.ireturn, 1) := by decide +kernel
theorem dL_lives_264 : decode cL_lives 264 = .ok (.iload 4, 2) := by decide +kernel
theorem dL_lives_266 : decode cL_lives 266 = .ok (.iconst 5, 1) := by decide +kernel
theorem dL_lives_267 : decode cL_lives 267 = .ok (.if_icmp .ge 195, 3) := by decide +kernel
theorem dL_lives_270 : decode cL_lives 270 = .ok (.aload_n 0, 1) := by decide +kernel
theorem dL_lives_271 : decode cL_lives 271 = .ok (.iconst 3, 1) := by decide +kernel
theorem dL_lives_272 : decode cL_lives 272 = .ok (.iload 5, 2) := by decide +kernel
theorem dL_lives_274 : decode cL_lives 274 = .ok (.iconst 0, 1) := by decide +kernel
theorem dL_lives_275 : decode cL_lives 275 = .ok (.iconst 0, 1) := by decide +kernel
theorem dL_lives_276 : decode cL_lives 276 = .ok (.iconst 0, 1) := by decide +kernel
theorem dL_lives_277 : decode cL_lives 277 = .ok (.invokestatic 131, 3) := by decide +kernel
theorem dL_lives_280 : decode cL_lives 280 = .ok (.istore 14, 2) := by decide +kernel
theorem dL_lives_282 : decode cL_lives 282 = .ok (.iload 6, 2) := by decide +kernel
theorem dL_lives_284 : decode cL_lives 284 = .ok (.ifCond .ne 9, 3) := by decide +kernel
theorem dL_lives_287 : decode cL_lives 287 = .ok (.iload 7, 2) := by decide +kernel
theorem dL_lives_289 : decode cL_lives 289 = .ok (.iconst 3, 1) := by decide +kernel
theorem dL_lives_290 : decode cL_lives 290 = .ok (.if_icmp .ne 37, 3) := by decide +kernel
theorem dL_lives_293 : decode cL_lives 293 = .ok (.iload 14, 2) := by decide +kernel
theorem dL_lives_295 : decode cL_lives 295 = .ok (.iload 6, 2) := by decide +kernel
theorem dL_lives_297 : decode cL_lives 297 = .ok (.ifCond .eq 8, 3) := by decide +kernel
theorem dL_lives_300 : decode cL_lives 300 = .ok (.ldc 17, 2) := by decide +kernel
theorem dL_lives_302 : decode cL_lives 302 = .ok (.goto 5, 3) := by decide +kernel
theorem dL_lives_305 : decode cL_lives 305 = .ok (.ldc 23, 2) := by decide +kernel
theorem dL_lives_307 : decode cL_lives 307 = .ok (.if_icmp .ne 18, 3) := by decide +kernel
theorem dL_lives_310 : decode cL_lives 310 = .ok (.aload_n 0, 1) := by decide +kernel
theorem dL_lives_311 : decode cL_lives 311 = .ok (.iconst (-1), 1) := by decide +kernel
theorem dL_lives_312 : decode cL_lives 312 = .ok (.invokestatic 124, 3) := by decide +kernel
theorem dL_lives_315 : decode cL_lives 315 = .ok (.lload 10, 2) := by decide +kernel
theorem dL_lives_317 : decode cL_lives 317 = .ok (.lcmp, 1) := by decide +kernel
theorem dL_lives_318 : decode cL_lives 318 = .ok (.ifCond .ne 7, 3) := by decide +kernel
theorem dL_lives_321 : decode cL_lives 321 = .ok (.iconst 1, 1) := by decide +kernel
theorem dL_lives_322 : decode cL_lives 322 = .ok (.goto 4, 3) := by decide +kernel
theorem dL_lives_325 : decode cL_lives 325 = .ok (.iconst 0, 1) := by decide +kernel
theorem dL_lives_326 : decode cL_lives 326 = .ok (.ireturn, 1) := by decide +kernel
theorem dL_lives_327 : decode cL_lives 327 = .ok (.iload 14, 2) := by decide +kernel
theorem dL_lives_329 : decode cL_lives 329 = .ok (.ifCond .lt 36, 3) := by decide +kernel
theorem dL_lives_332 : decode cL_lives 332 = .ok (.aload_n 0, 1) := by decide +kernel
theorem dL_lives_333 : decode cL_lives 333 = .ok (.iload 5, 2) := by decide +kernel
theorem dL_lives_335 : decode cL_lives 335 = .ok (.invokevirtual 73, 3) := by decide +kernel
theorem dL_lives_338 : decode cL_lives 338 = .ok (.iconst 3, 1) := by decide +kernel
theorem dL_lives_339 : decode cL_lives 339 = .ok (.if_icmp .ne 26, 3) := by decide +kernel
theorem dL_lives_342 : decode cL_lives 342 = .ok (.aload_n 0, 1) := by decide +kernel
theorem dL_lives_343 : decode cL_lives 343 = .ok (.iload 5, 2) := by decide +kernel
theorem dL_lives_345 : decode cL_lives 345 = .ok (.invokevirtual 91, 3) := by decide +kernel
theorem dL_lives_348 : decode cL_lives 348 = .ok (.ifCond .ne 17, 3) := by decide +kernel
theorem dL_lives_351 : decode cL_lives 351 = .ok (.aload_n 0, 1) := by decide +kernel
theorem dL_lives_352 : decode cL_lives 352 = .ok (.iload 5, 2) := by decide +kernel
theorem dL_lives_354 : decode cL_lives 354 = .ok (.invokevirtual 78, 3) := by decide +kernel
theorem dL_lives_357 : decode cL_lives 357 = .ok (.iconst (-1), 1) := by decide +kernel
theorem dL_lives_358 : decode cL_lives 358 = .ok (.if_icmp .ne 7, 3) := by decide +kernel
theorem dL_lives_361 : decode cL_lives 361 = .ok (.iconst 1, 1) := by decide +kernel
theorem dL_lives_362 : decode cL_lives 362 = .ok (.goto 4, 3) := by decide +kernel
theorem dL_lives_365 : decode cL_lives 365 = .ok (.iconst 0, 1) := by decide +kernel
theorem dL_lives_366 : decode cL_lives 366 = .ok (.istore 15, 2) := by decide +kernel
theorem dL_lives_368 : decode cL_lives 368 = .ok (.iconst 0, 1) := by decide +kernel
theorem dL_lives_369 : decode cL_lives 369 = .ok (.istore 16, 2) := by decide +kernel
theorem dL_lives_371 : decode cL_lives 371 = .ok (.iload 16, 2) := by decide +kernel
theorem dL_lives_373 : decode cL_lives 373 = .ok (.bipush 16, 2) := by decide +kernel
theorem dL_lives_375 : decode cL_lives 375 = .ok (.if_icmp .ge 59, 3) := by decide +kernel
theorem dL_lives_378 : decode cL_lives 378 = .ok (.iload 15, 2) := by decide +kernel
theorem dL_lives_380 : decode cL_lives 380 = .ok (.ifCond .eq 54, 3) := by decide +kernel
theorem dL_lives_383 : decode cL_lives 383 = .ok (.iconst 0, 1) := by decide +kernel
theorem dL_lives_384 : decode cL_lives 384 = .ok (.istore 17, 2) := by decide +kernel
theorem dL_lives_386 : decode cL_lives 386 = .ok (.iload 17, 2) := by decide +kernel
theorem dL_lives_388 : decode cL_lives 388 = .ok (.aload_n 0, 1) := by decide +kernel
theorem dL_lives_389 : decode cL_lives 389 = .ok (.iload 16, 2) := by decide +kernel
theorem dL_lives_391 : decode cL_lives 391 = .ok (.invokevirtual 112, 3) := by decide +kernel
theorem dL_lives_394 : decode cL_lives 394 = .ok (.if_icmp .ge 34, 3) := by decide +kernel
theorem dL_lives_397 : decode cL_lives 397 = .ok (.iload 15, 2) := by decide +kernel
theorem dL_lives_399 : decode cL_lives 399 = .ok (.ifCond .eq 29, 3) := by decide +kernel
theorem dL_lives_402 : decode cL_lives 402 = .ok (.aload_n 0, 1) := by decide +kernel
theorem dL_lives_403 : decode cL_lives 403 = .ok (.iload 16, 2) := by decide +kernel
theorem dL_lives_405 : decode cL_lives 405 = .ok (.iload 17, 2) := by decide +kernel
theorem dL_lives_407 : decode cL_lives 407 = .ok (.invokevirtual 115, 3) := by decide +kernel
theorem dL_lives_410 : decode cL_lives 410 = .ok (.iload 5, 2) := by decide +kernel
theorem dL_lives_412 : decode cL_lives 412 = .ok (.if_icmp .eq 7, 3) := by decide +kernel
theorem dL_lives_415 : decode cL_lives 415 = .ok (.iconst 1, 1) := by decide +kernel
theorem dL_lives_416 : decode cL_lives 416 = .ok (.goto 4, 3) := by decide +kernel
theorem dL_lives_419 : decode cL_lives 419 = .ok (.iconst 0, 1) := by decide +kernel
theorem dL_lives_420 : decode cL_lives 420 = .ok (.istore 15, 2) := by decide +kernel
theorem dL_lives_422 : decode cL_lives 422 = .ok (.iinc 17 1, 3) := by decide +kernel
theorem dL_lives_425 : decode cL_lives 425 = .ok (.goto (-39), 3) := by decide +kernel
theorem dL_lives_428 : decode cL_lives 428 = .ok (.iinc 16 1, 3) := by decide +kernel
theorem dL_lives_431 : decode cL_lives 431 = .ok (.goto (-60), 3) := by decide +kernel
theorem dL_lives_434 : decode cL_lives 434 = .ok (.iload 15, 2) := by decide +kernel
theorem dL_lives_436 : decode cL_lives 436 = .ok (.ifCond .eq 24, 3) := by decide +kernel
theorem dL_lives_439 : decode cL_lives 439 = .ok (.iload 14, 2) := by decide +kernel
theorem dL_lives_441 : decode cL_lives 441 = .ok (.ifCond .gt 15, 3) := by decide +kernel
theorem dL_lives_444 : decode cL_lives 444 = .ok (.aload_n 0, 1) := by decide +kernel
theorem dL_lives_445 : decode cL_lives 445 = .ok (.iload 5, 2) := by decide +kernel
theorem dL_lives_447 : decode cL_lives 447 = .ok (.invokestatic 124, 3) := by decide +kernel
theorem dL_lives_450 : decode cL_lives 450 = .ok (.lload 12, 2) := by decide +kernel
theorem dL_lives_452 : decode cL_lives 452 = .ok (.lcmp, 1) := by decide +kernel
theorem dL_lives_453 : decode cL_lives 453 = .ok (.ifCond .ne 7, 3) := by decide +kernel
theorem dL_lives_456 : decode cL_lives 456 = .ok (.iconst 1, 1) := by decide +kernel
theorem dL_lives_457 : decode cL_lives 457 = .ok (.goto 4, 3) := by decide +kernel
theorem dL_lives_460 : decode cL_lives 460 = .ok (.iconst 0, 1) := by decide +kernel
theorem dL_lives_461 : decode cL_lives 461 = .ok (.ireturn, 1) := by decide +kernel
theorem dL_lives_462 : decode cL_lives 462 = .ok (.iload 4, 2) := by decide +kernel
theorem dL_lives_464 : decode cL_lives 464 = .ok (.bipush 8, 2) := by decide +kernel
theorem dL_lives_466 : decode cL_lives 466 = .ok (.if_icmp .ge 217, 3) := by decide +kernel
theorem dL_lives_469 : decode cL_lives 469 = .ok (.iload_n 3, 1) := by decide +kernel
theorem dL_lives_470 : decode cL_lives 470 = .ok (.ifCond .eq 17, 3) := by decide +kernel
theorem dL_lives_473 : decode cL_lives 473 = .ok (.iload_n 2, 1) := by decide +kernel
theorem dL_lives_474 : decode cL_lives 474 = .ok (.bipush 6, 2) := by decide +kernel
theorem dL_lives_476 : decode cL_lives 476 = .ok (.ishr, 1) := by decide +kernel
theorem dL_lives_477 : decode cL_lives 477 = .ok (.bipush 13, 2) := by decide +kernel
theorem dL_lives_479 : decode cL_lives 479 = .ok (.invokestatic 121, 3) := by decide +kernel
theorem dL_lives_482 : decode cL_lives 482 = .ok (.iconst 2, 1) := by decide +kernel
theorem dL_lives_483 : decode cL_lives 483 = .ok (.isub, 1) := by decide +kernel
theorem dL_lives_484 : decode cL_lives 484 = .ok (.goto 11, 3) := by decide +kernel
theorem dL_lives_487 : decode cL_lives 487 = .ok (.iload_n 2, 1) := by decide +kernel
theorem dL_lives_488 : decode cL_lives 488 = .ok (.bipush 6, 2) := by decide +kernel
theorem dL_lives_490 : decode cL_lives 490 = .ok (.ishr, 1) := by decide +kernel
theorem dL_lives_491 : decode cL_lives 491 = .ok (.iconst 4, 1) := by decide +kernel
theorem dL_lives_492 : decode cL_lives 492 = .ok (.invokestatic 121, 3) := by decide +kernel
theorem dL_lives_495 : decode cL_lives 495 = .ok (.istore 14, 2) := by decide +kernel
theorem dL_lives_497 : decode cL_lives 497 = .ok (.aload_n 0, 1) := by decide +kernel
theorem dL_lives_498 : decode cL_lives 498 = .ok (.iconst 4, 1) := by decide +kernel
theorem dL_lives_499 : decode cL_lives 499 = .ok (.iload 5, 2) := by decide +kernel
theorem dL_lives_501 : decode cL_lives 501 = .ok (.iload 14, 2) := by decide +kernel
theorem dL_lives_503 : decode cL_lives 503 = .ok (.iconst 0, 1) := by decide +kernel
theorem dL_lives_504 : decode cL_lives 504 = .ok (.iconst 0, 1) := by decide +kernel
theorem dL_lives_505 : decode cL_lives 505 = .ok (.invokestatic 131, 3) := by decide +kernel
theorem dL_lives_508 : decode cL_lives 508 = .ok (.istore 15, 2) := by decide +kernel
theorem dL_lives_510 : decode cL_lives 510 = .ok (.iload 6, 2) := by decide +kernel
theorem dL_lives_512 : decode cL_lives 512 = .ok (.ifCond .ne 21, 3) := by decide +kernel
theorem dL_lives_515 : decode cL_lives 515 = .ok (.iload 14, 2) := by decide +kernel
theorem dL_lives_517 : decode cL_lives 517 = .ok (.ifCond .lt 16, 3) := by decide +kernel
theorem dL_lives_520 : decode cL_lives 520 = .ok (.iload 14, 2) := by decide +kernel
theorem dL_lives_522 : decode cL_lives 522 = .ok (.bipush 9, 2) := by decide +kernel
theorem dL_lives_524 : decode cL_lives 524 = .ok (.if_icmp .gt 9, 3) := by decide +kernel
theorem dL_lives_527 : decode cL_lives 527 = .ok (.iload 7, 2) := by decide +kernel
theorem dL_lives_529 : decode cL_lives 529 = .ok (.iconst 3, 1) := by decide +kernel
theorem dL_lives_530 : decode cL_lives 530 = .ok (.if_icmp .ne 54, 3) := by decide +kernel
theorem dL_lives_533 : decode cL_lives 533 = .ok (.iload 15, 2) := by decide +kernel
theorem dL_lives_535 : decode cL_lives 535 = .ok (.iload 6, 2) := by decide +kernel
theorem dL_lives_537 : decode cL_lives 537 = .ok (.ifCond .eq 8, 3) := by decide +kernel
theorem dL_lives_540 : decode cL_lives 540 = .ok (.ldc 17, 2) := by decide +kernel
theorem dL_lives_542 : decode cL_lives 542 = .ok (.goto 22, 3) := by decide +kernel
theorem dL_lives_545 : decode cL_lives 545 = .ok (.iload 14, 2) := by decide +kernel
theorem dL_lives_547 : decode cL_lives 547 = .ok (.ifCond .lt 10, 3) := by decide +kernel
theorem dL_lives_550 : decode cL_lives 550 = .ok (.iload 14, 2) := by decide +kernel
theorem dL_lives_552 : decode cL_lives 552 = .ok (.bipush 9, 2) := by decide +kernel
theorem dL_lives_554 : decode cL_lives 554 = .ok (.if_icmp .le 8, 3) := by decide +kernel
theorem dL_lives_557 : decode cL_lives 557 = .ok (.ldc 20, 2) := by decide +kernel
theorem dL_lives_559 : decode cL_lives 559 = .ok (.goto 5, 3) := by decide +kernel
theorem dL_lives_562 : decode cL_lives 562 = .ok (.ldc 23, 2) := by decide +kernel
theorem dL_lives_564 : decode cL_lives 564 = .ok (.if_icmp .ne 18, 3) := by decide +kernel
theorem dL_lives_567 : decode cL_lives 567 = .ok (.aload_n 0, 1) := by decide +kernel
theorem dL_lives_568 : decode cL_lives 568 = .ok (.iconst (-1), 1) := by decide +kernel
theorem dL_lives_569 : decode cL_lives 569 = .ok (.invokestatic 124, 3) := by decide +kernel
theorem dL_lives_572 : decode cL_lives 572 = .ok (.lload 10, 2) := by decide +kernel
theorem dL_lives_574 : decode cL_lives 574 = .ok (.lcmp, 1) := by decide +kernel
theorem dL_lives_575 : decode cL_lives 575 = .ok (.ifCond .ne 7, 3) := by decide +kernel
theorem dL_lives_578 : decode cL_lives 578 = .ok (.iconst 1, 1) := by decide +kernel
theorem dL_lives_579 : decode cL_lives 579 = .ok (.goto 4, 3) := by decide +kernel
theorem dL_lives_582 : decode cL_lives 582 = .ok (.iconst 0, 1) := by decide +kernel
theorem dL_lives_583 : decode cL_lives 583 = .ok (.ireturn, 1) := by decide +kernel
theorem dL_lives_584 : decode cL_lives 584 = .ok (.iload 15, 2) := by decide +kernel
theorem dL_lives_586 : decode cL_lives 586 = .ok (.aload_n 1, 1) := by decide +kernel
theorem dL_lives_587 : decode cL_lives 587 = .ok (.iload 5, 2) := by decide +kernel
theorem dL_lives_589 : decode cL_lives 589 = .ok (.iaload, 1) := by decide +kernel
theorem dL_lives_590 : decode cL_lives 590 = .ok (.if_icmp .ne 48, 3) := by decide +kernel
theorem dL_lives_593 : decode cL_lives 593 = .ok (.iload 15, 2) := by decide +kernel
theorem dL_lives_595 : decode cL_lives 595 = .ok (.iload 14, 2) := by decide +kernel
theorem dL_lives_597 : decode cL_lives 597 = .ok (.if_icmp .ne 14, 3) := by decide +kernel
theorem dL_lives_600 : decode cL_lives 600 = .ok (.aload_n 0, 1) := by decide +kernel
theorem dL_lives_601 : decode cL_lives 601 = .ok (.iconst (-1), 1) := by decide +kernel
theorem dL_lives_602 : decode cL_lives 602 = .ok (.invokestatic 124, 3) := by decide +kernel
theorem dL_lives_605 : decode cL_lives 605 = .ok (.lload 10, 2) := by decide +kernel
theorem dL_lives_607 : decode cL_lives 607 = .ok (.lcmp, 1) := by decide +kernel
theorem dL_lives_608 : decode cL_lives 608 = .ok (.ifCond .ne 30, 3) := by decide +kernel
theorem dL_lives_611 : decode cL_lives 611 = .ok (.aload_n 0, 1) := by decide +kernel
theorem dL_lives_612 : decode cL_lives 612 = .ok (.iload 5, 2) := by decide +kernel
theorem dL_lives_614 : decode cL_lives 614 = .ok (.invokestatic 124, 3) := by decide +kernel
theorem dL_lives_617 : decode cL_lives 617 = .ok (.lload 12, 2) := by decide +kernel
theorem dL_lives_619 : decode cL_lives 619 = .ok (.lcmp, 1) := by decide +kernel
theorem dL_lives_620 : decode cL_lives 620 = .ok (.ifCond .ne 18, 3) := by decide +kernel
theorem dL_lives_623 : decode cL_lives 623 = .ok (.aload_n 0, 1) := by decide +kernel
theorem dL_lives_624 : decode cL_lives 624 = .ok (.iload 5, 2) := by decide +kernel
theorem dL_lives_626 : decode cL_lives 626 = .ok (.invokevirtual 73, 3) := by decide +kernel
theorem dL_lives_629 : decode cL_lives 629 = .ok (.iload 7, 2) := by decide +kernel
theorem dL_lives_631 : decode cL_lives 631 = .ok (.if_icmp .ne 7, 3) := by decide +kernel
theorem dL_lives_634 : decode cL_lives 634 = .ok (.iconst 1, 1) := by decide +kernel
theorem dL_lives_635 : decode cL_lives 635 = .ok (.goto 4, 3) := by decide +kernel
theorem dL_lives_638 : decode cL_lives 638 = .ok (.iconst 0, 1) := by decide +kernel
theorem dL_lives_639 : decode cL_lives 639 = .ok (.istore 16, 2) := by decide +kernel
theorem dL_lives_641 : decode cL_lives 641 = .ok (.aload_n 1, 1) := by decide +kernel
theorem dL_lives_642 : decode cL_lives 642 = .ok (.iload 5, 2) := by decide +kernel
theorem dL_lives_644 : decode cL_lives 644 = .ok (.iload 14, 2) := by decide +kernel
theorem dL_lives_646 : decode cL_lives 646 = .ok (.iastore, 1) := by decide +kernel
theorem dL_lives_647 : decode cL_lives 647 = .ok (.iload 16, 2) := by decide +kernel
theorem dL_lives_649 : decode cL_lives 649 = .ok (.ifCond .eq 32, 3) := by decide +kernel
theorem dL_lives_652 : decode cL_lives 652 = .ok (.iload 15, 2) := by decide +kernel
theorem dL_lives_654 : decode cL_lives 654 = .ok (.iload 14, 2) := by decide +kernel
theorem dL_lives_656 : decode cL_lives 656 = .ok (.if_icmp .eq 21, 3) := by decide +kernel
theorem dL_lives_659 : decode cL_lives 659 = .ok (.iload 8, 2) := by decide +kernel
theorem dL_lives_661 : decode cL_lives 661 = .ok (.iconst (-1), 1) := by decide +kernel
theorem dL_lives_662 : decode cL_lives 662 = .ok (.if_icmp .eq 15, 3) := by decide +kernel
theorem dL_lives_665 : decode cL_lives 665 = .ok (.aload_n 0, 1) := by decide +kernel
theorem dL_lives_666 : decode cL_lives 666 = .ok (.aload_n 1, 1) := by decide +kernel
theorem dL_lives_667 : decode cL_lives 667 = .ok (.iload 5, 2) := by decide +kernel
theorem dL_lives_669 : decode cL_lives 669 = .ok (.iload 8, 2) := by decide +kernel
theorem dL_lives_671 : decode cL_lives 671 = .ok (.invokestatic 143, 3) := by decide +kernel
theorem dL_lives_674 : decode cL_lives 674 = .ok (.ifCond .eq 7, 3) := by decide +kernel
theorem dL_lives_677 : decode cL_lives 677 = .ok (.iconst 1, 1) := by decide +kernel
theorem dL_lives_678 : decode cL_lives 678 = .ok (.goto 4, 3) := by decide +kernel
theorem dL_lives_681 : decode cL_lives 681 = .ok (.iconst 0, 1) := by decide +kernel
theorem dL_lives_682 : decode cL_lives 682 = .ok (.ireturn, 1) := by decide +kernel
theorem dL_lives_683 : decode cL_lives 683 = .ok (.iload 4, 2) := by decide +kernel
theorem dL_lives_685 : decode cL_lives 685 = .ok (.bipush 10, 2) := by decide +kernel
theorem dL_lives_687 : decode cL_lives 687 = .ok (.if_icmp .ge 117, 3) := by decide +kernel
theorem dL_lives_690 : decode cL_lives 690 = .ok (.aload_n 0, 1) := by decide +kernel
theorem dL_lives_691 : decode cL_lives 691 = .ok (.bipush 7, 2) := by decide +kernel
theorem dL_lives_693 : decode cL_lives 693 = .ok (.iload 5, 2) := by decide +kernel
theorem dL_lives_695 : decode cL_lives 695 = .ok (.iconst 0, 1) := by decide +kernel
theorem dL_lives_696 : decode cL_lives 696 = .ok (.iconst 0, 1) := by decide +kernel
theorem dL_lives_697 : decode cL_lives 697 = .ok (.iconst 0, 1) := by decide +kernel
theorem dL_lives_698 : decode cL_lives 698 = .ok (.invokestatic 131, 3) := by decide +kernel
theorem dL_lives_701 : decode cL_lives 701 = .ok (.istore 14, 2) := by decide +kernel
theorem dL_lives_703 : decode cL_lives 703 = .ok (.iload 6, 2) := by decide +kernel
theorem dL_lives_705 : decode cL_lives 705 = .ok (.ifCond .ne 9, 3) := by decide +kernel
theorem dL_lives_708 : decode cL_lives 708 = .ok (.iload 7, 2) := by decide +kernel
theorem dL_lives_710 : decode cL_lives 710 = .ok (.iconst 3, 1) := by decide +kernel
theorem dL_lives_711 : decode cL_lives 711 = .ok (.if_icmp .eq 37, 3) := by decide +kernel
theorem dL_lives_714 : decode cL_lives 714 = .ok (.iload 14, 2) := by decide +kernel
theorem dL_lives_716 : decode cL_lives 716 = .ok (.iload 6, 2) := by decide +kernel
theorem dL_lives_718 : decode cL_lives 718 = .ok (.ifCond .eq 8, 3) := by decide +kernel
theorem dL_lives_721 : decode cL_lives 721 = .ok (.ldc 17, 2) := by decide +kernel
theorem dL_lives_723 : decode cL_lives 723 = .ok (.goto 5, 3) := by decide +kernel
theorem dL_lives_726 : decode cL_lives 726 = .ok (.ldc 23, 2) := by decide +kernel
theorem dL_lives_728 : decode cL_lives 728 = .ok (.if_icmp .ne 18, 3) := by decide +kernel
theorem dL_lives_731 : decode cL_lives 731 = .ok (.aload_n 0, 1) := by decide +kernel
theorem dL_lives_732 : decode cL_lives 732 = .ok (.iconst (-1), 1) := by decide +kernel
theorem dL_lives_733 : decode cL_lives 733 = .ok (.invokestatic 124, 3) := by decide +kernel
theorem dL_lives_736 : decode cL_lives 736 = .ok (.lload 10, 2) := by decide +kernel
theorem dL_lives_738 : decode cL_lives 738 = .ok (.lcmp, 1) := by decide +kernel
theorem dL_lives_739 : decode cL_lives 739 = .ok (.ifCond .ne 7, 3) := by decide +kernel
theorem dL_lives_742 : decode cL_lives 742 = .ok (.iconst 1, 1) := by decide +kernel
theorem dL_lives_743 : decode cL_lives 743 = .ok (.goto 4, 3) := by decide +kernel
theorem dL_lives_746 : decode cL_lives 746 = .ok (.iconst 0, 1) := by decide +kernel
theorem dL_lives_747 : decode cL_lives 747 = .ok (.ireturn, 1) := by decide +kernel
theorem dL_lives_748 : decode cL_lives 748 = .ok (.aload_n 1, 1) := by decide +kernel
theorem dL_lives_749 : decode cL_lives 749 = .ok (.iload 5, 2) := by decide +kernel
theorem dL_lives_751 : decode cL_lives 751 = .ok (.iconst 0, 1) := by decide +kernel
theorem dL_lives_752 : decode cL_lives 752 = .ok (.iastore, 1) := by decide +kernel
theorem dL_lives_753 : decode cL_lives 753 = .ok (.iload 14, 2) := by decide +kernel
theorem dL_lives_755 : decode cL_lives 755 = .ok (.ifCond .ne 47, 3) := by decide +kernel
theorem dL_lives_758 : decode cL_lives 758 = .ok (.aload_n 0, 1) := by decide +kernel
theorem dL_lives_759 : decode cL_lives 759 = .ok (.iload 5, 2) := by decide +kernel
theorem dL_lives_761 : decode cL_lives 761 = .ok (.invokevirtual 73, 3) := by decide +kernel
theorem dL_lives_764 : decode cL_lives 764 = .ok (.ifCond .ne 38, 3) := by decide +kernel
theorem dL_lives_767 : decode cL_lives 767 = .ok (.aload_n 0, 1) := by decide +kernel
theorem dL_lives_768 : decode cL_lives 768 = .ok (.iload 5, 2) := by decide +kernel
theorem dL_lives_770 : decode cL_lives 770 = .ok (.invokevirtual 83, 3) := by decide +kernel
theorem dL_lives_773 : decode cL_lives 773 = .ok (.iconst (-1), 1) := by decide +kernel
theorem dL_lives_774 : decode cL_lives 774 = .ok (.if_icmp .ne 28, 3) := by decide +kernel
theorem dL_lives_777 : decode cL_lives 777 = .ok (.aload_n 0, 1) := by decide +kernel
theorem dL_lives_778 : decode cL_lives 778 = .ok (.iload 5, 2) := by decide +kernel
theorem dL_lives_780 : decode cL_lives 780 = .ok (.invokevirtual 88, 3) := by decide +kernel
theorem dL_lives_783 : decode cL_lives 783 = .ok (.ifCond .ne 19, 3) := by decide +kernel
theorem dL_lives_786 : decode cL_lives 786 = .ok (.aload_n 0, 1) := by decide +kernel
theorem dL_lives_787 : decode cL_lives 787 = .ok (.iload 5, 2) := by decide +kernel
theorem dL_lives_789 : decode cL_lives 789 = .ok (.invokestatic 124, 3) := by decide +kernel
theorem dL_lives_792 : decode cL_lives 792 = .ok (.lload 12, 2) := by decide +kernel
theorem dL_lives_794 : decode cL_lives 794 = .ok (.lcmp, 1) := by decide +kernel
theorem dL_lives_795 : decode cL_lives 795 = .ok (.ifCond .ne 7, 3) := by decide +kernel
theorem dL_lives_798 : decode cL_lives 798 = .ok (.iconst 1, 1) := by decide +kernel
theorem dL_lives_799 : decode cL_lives 799 = .ok (.goto 4, 3) := by decide +kernel
theorem dL_lives_802 : decode cL_lives 802 = .ok (.iconst 0, 1) := by decide +kernel
theorem dL_lives_803 : decode cL_lives 803 = .ok (.ireturn, 1) := by decide +kernel
theorem dL_lives_804 : decode cL_lives 804 = .ok (.aload_n 0, 1) := by decide +kernel
theorem dL_lives_805 : decode cL_lives 805 = .ok (.invokevirtual 118, 3) := by decide +kernel
theorem dL_lives_808 : decode cL_lives 808 = .ok (.istore 14, 2) := by decide +kernel
theorem dL_lives_810 : decode cL_lives 810 = .ok (.aload_n 0, 1) := by decide +kernel
theorem dL_lives_811 : decode cL_lives 811 = .ok (.invokevirtual 67, 3) := by decide +kernel
theorem dL_lives_814 : decode cL_lives 814 = .ok (.istore 15, 2) := by decide +kernel
theorem dL_lives_816 : decode cL_lives 816 = .ok (.iload_n 3, 1) := by decide +kernel
theorem dL_lives_817 : decode cL_lives 817 = .ok (.ifCond .eq 24, 3) := by decide +kernel
theorem dL_lives_820 : decode cL_lives 820 = .ok (.iload_n 2, 1) := by decide +kernel
theorem dL_lives_821 : decode cL_lives 821 = .ok (.bipush 6, 2) := by decide +kernel
theorem dL_lives_823 : decode cL_lives 823 = .ok (.ishr, 1) := by decide +kernel
theorem dL_lives_824 : decode cL_lives 824 = .ok (.iconst 2, 1) := by decide +kernel
theorem dL_lives_825 : decode cL_lives 825 = .ok (.invokestatic 121, 3) := by decide +kernel
theorem dL_lives_828 : decode cL_lives 828 = .ok (.ifCond .ne 9, 3) := by decide +kernel
theorem dL_lives_831 : decode cL_lives 831 = .ok (.sipush 1001, 3) := by decide +kernel
theorem dL_lives_834 : decode cL_lives 834 = .ok (.goto 17, 3) := by decide +kernel
theorem dL_lives_837 : decode cL_lives 837 = .ok (.iconst 0, 1) := by decide +kernel
theorem dL_lives_838 : decode cL_lives 838 = .ok (.goto 13, 3) := by decide +kernel
theorem dL_lives_841 : decode cL_lives 841 = .ok (.iconst 1, 1) := by decide +kernel
theorem dL_lives_842 : decode cL_lives 842 = .ok (.iload_n 2, 1) := by decide +kernel
theorem dL_lives_843 : decode cL_lives 843 = .ok (.bipush 6, 2) := by decide +kernel
theorem dL_lives_845 : decode cL_lives 845 = .ok (.ishr, 1) := by decide +kernel
theorem dL_lives_846 : decode cL_lives 846 = .ok (.iconst 3, 1) := by decide +kernel
theorem dL_lives_847 : decode cL_lives 847 = .ok (.invokestatic 121, 3) := by decide +kernel
theorem dL_lives_850 : decode cL_lives 850 = .ok (.iadd, 1) := by decide +kernel
theorem dL_lives_851 : decode cL_lives 851 = .ok (.istore 16, 2) := by decide +kernel
theorem dL_lives_853 : decode cL_lives 853 = .ok (.aload_n 0, 1) := by decide +kernel
theorem dL_lives_854 : decode cL_lives 854 = .ok (.iconst 5, 1) := by decide +kernel
theorem dL_lives_855 : decode cL_lives 855 = .ok (.iload 16, 2) := by decide +kernel
theorem dL_lives_857 : decode cL_lives 857 = .ok (.iconst 0, 1) := by decide +kernel
theorem dL_lives_858 : decode cL_lives 858 = .ok (.iconst 0, 1) := by decide +kernel
theorem dL_lives_859 : decode cL_lives 859 = .ok (.iconst 0, 1) := by decide +kernel
theorem dL_lives_860 : decode cL_lives 860 = .ok (.invokestatic 131, 3) := by decide +kernel
theorem dL_lives_863 : decode cL_lives 863 = .ok (.istore 17, 2) := by decide +kernel
theorem dL_lives_865 : decode cL_lives 865 = .ok (.iload_n 3, 1) := by decide +kernel
theorem dL_lives_866 : decode cL_lives 866 = .ok (.ifCond .eq 27, 3) := by decide +kernel
theorem dL_lives_869 : decode cL_lives 869 = .ok (.iload 17, 2) := by decide +kernel
theorem dL_lives_871 : decode cL_lives 871 = .ok (.ldc 20, 2) := by decide +kernel
theorem dL_lives_873 : decode cL_lives 873 = .ok (.if_icmp .ne 18, 3) := by decide +kernel
theorem dL_lives_876 : decode cL_lives 876 = .ok (.aload_n 0, 1) := by decide +kernel
theorem dL_lives_877 : decode cL_lives 877 = .ok (.iconst (-1), 1) := by decide +kernel
theorem dL_lives_878 : decode cL_lives 878 = .ok (.invokestatic 124, 3) := by decide +kernel
theorem dL_lives_881 : decode cL_lives 881 = .ok (.lload 10, 2) := by decide +kernel
theorem dL_lives_883 : decode cL_lives 883 = .ok (.lcmp, 1) := by decide +kernel
theorem dL_lives_884 : decode cL_lives 884 = .ok (.ifCond .ne 7, 3) := by decide +kernel
theorem dL_lives_887 : decode cL_lives 887 = .ok (.iconst 1, 1) := by decide +kernel
theorem dL_lives_888 : decode cL_lives 888 = .ok (.goto 4, 3) := by decide +kernel
theorem dL_lives_891 : decode cL_lives 891 = .ok (.iconst 0, 1) := by decide +kernel
theorem dL_lives_892 : decode cL_lives 892 = .ok (.ireturn, 1) := by decide +kernel
theorem dL_lives_893 : decode cL_lives 893 = .ok (.iconst 0, 1) := by decide +kernel
theorem dL_lives_894 : decode cL_lives 894 = .ok (.istore 18, 2) := by decide +kernel
theorem dL_lives_896 : decode cL_lives 896 = .ok (.iconst 0, 1) := by decide +kernel
theorem dL_lives_897 : decode cL_lives 897 = .ok (.istore 19, 2) := by decide +kernel
theorem dL_lives_899 : decode cL_lives 899 = .ok (.iload 19, 2) := by decide +kernel
theorem dL_lives_901 : decode cL_lives 901 = .ok (.bipush 8, 2) := by decide +kernel
theorem dL_lives_903 : decode cL_lives 903 = .ok (.if_icmp .ge 40, 3) := by decide +kernel
theorem dL_lives_906 : decode cL_lives 906 = .ok (.iload 18, 2) := by decide +kernel
theorem dL_lives_908 : decode cL_lives 908 = .ok (.aload_n 0, 1) := by decide +kernel
theorem dL_lives_909 : decode cL_lives 909 = .ok (.iload 19, 2) := by decide +kernel
theorem dL_lives_911 : decode cL_lives 911 = .ok (.invokevirtual 88, 3) := by decide +kernel
theorem dL_lives_914 : decode cL_lives 914 = .ok (.iload 9, 2) := by decide +kernel
theorem dL_lives_916 : decode cL_lives 916 = .ok (.if_icmp .le 17, 3) := by decide +kernel
theorem dL_lives_919 : decode cL_lives 919 = .ok (.aload_n 0, 1) := by decide +kernel
theorem dL_lives_920 : decode cL_lives 920 = .ok (.iload 19, 2) := by decide +kernel
theorem dL_lives_922 : decode cL_lives 922 = .ok (.invokevirtual 83, 3) := by decide +kernel
theorem dL_lives_925 : decode cL_lives 925 = .ok (.iconst 1, 1) := by decide +kernel
theorem dL_lives_926 : decode cL_lives 926 = .ok (.if_icmp .ne 7, 3) := by decide +kernel
theorem dL_lives_929 : decode cL_lives 929 = .ok (.iconst 1, 1) := by decide +kernel
theorem dL_lives_930 : decode cL_lives 930 = .ok (.goto 4, 3) := by decide +kernel
theorem dL_lives_933 : decode cL_lives 933 = .ok (.iconst 0, 1) := by decide +kernel
theorem dL_lives_934 : decode cL_lives 934 = .ok (.iadd, 1) := by decide +kernel
theorem dL_lives_935 : decode cL_lives 935 = .ok (.istore 18, 2) := by decide +kernel
theorem dL_lives_937 : decode cL_lives 937 = .ok (.iinc 19 1, 3) := by decide +kernel
theorem dL_lives_940 : decode cL_lives 940 = .ok (.goto (-41), 3) := by decide +kernel
theorem dL_lives_943 : decode cL_lives 943 = .ok (.aload_n 0, 1) := by decide +kernel
theorem dL_lives_944 : decode cL_lives 944 = .ok (.invokevirtual 67, 3) := by decide +kernel
theorem dL_lives_947 : decode cL_lives 947 = .ok (.iload 15, 2) := by decide +kernel
theorem dL_lives_949 : decode cL_lives 949 = .ok (.iload 16, 2) := by decide +kernel
theorem dL_lives_951 : decode cL_lives 951 = .ok (.iadd, 1) := by decide +kernel
theorem dL_lives_952 : decode cL_lives 952 = .ok (.if_icmp .ne 72, 3) := by decide +kernel
theorem dL_lives_955 : decode cL_lives 955 = .ok (.iload 17, 2) := by decide +kernel
theorem dL_lives_957 : decode cL_lives 957 = .ok (.iload 18, 2) := by decide +kernel
theorem dL_lives_959 : decode cL_lives 959 = .ok (.if_icmp .ne 65, 3) := by decide +kernel
theorem dL_lives_962 : decode cL_lives 962 = .ok (.iload 14, 2) := by decide +kernel
theorem dL_lives_964 : decode cL_lives 964 = .ok (.iconst (-1), 1) := by decide +kernel
theorem dL_lives_965 : decode cL_lives 965 = .ok (.if_icmp .eq 10, 3) := by decide +kernel
theorem dL_lives_968 : decode cL_lives 968 = .ok (.iload 14, 2) := by decide +kernel
theorem dL_lives_970 : decode cL_lives 970 = .ok (.iload 16, 2) := by decide +kernel
theorem dL_lives_972 : decode cL_lives 972 = .ok (.if_icmp .le 7, 3) := by decide +kernel
theorem dL_lives_975 : decode cL_lives 975 = .ok (.iconst 1, 1) := by decide +kernel
theorem dL_lives_976 : decode cL_lives 976 = .ok (.goto 4, 3) := by decide +kernel
theorem dL_lives_979 : decode cL_lives 979 = .ok (.iconst 0, 1) := by decide +kernel
theorem dL_lives_980 : decode cL_lives 980 = .ok (.iload 17, 2) := by decide +kernel
theorem dL_lives_982 : decode cL_lives 982 = .ok (.ifCond .ne 7, 3) := by decide +kernel
theorem dL_lives_985 : decode cL_lives 985 = .ok (.iconst 1, 1) := by decide +kernel
theorem dL_lives_986 : decode cL_lives 986 = .ok (.goto 4, 3) := by decide +kernel
theorem dL_lives_989 : decode cL_lives 989 = .ok (.iconst 0, 1) := by decide +kernel
theorem dL_lives_990 : decode cL_lives 990 = .ok (.if_icmp .ne 34, 3) := by decide +kernel
theorem dL_lives_993 : decode cL_lives 993 = .ok (.iload 17, 2) := by decide +kernel
theorem dL_lives_995 : decode cL_lives 995 = .ok (.ifCond .gt 25, 3) := by decide +kernel
theorem dL_lives_998 : decode cL_lives 998 = .ok (.aload_n 0, 1) := by decide +kernel
theorem dL_lives_999 : decode cL_lives 999 = .ok (.invokevirtual 118, 3) := by decide +kernel
theorem dL_lives_1002 : decode cL_lives 1002 = .ok (.iload 14, 2) := by decide +kernel
theorem dL_lives_1004 : decode cL_lives 1004 = .ok (.iconst (-1), 1) := by decide +kernel
theorem dL_lives_1005 : decode cL_lives 1005 = .ok (.if_icmp .ne 7, 3) := by decide +kernel
theorem dL_lives_1008 : decode cL_lives 1008 = .ok (.iconst (-1), 1) := by decide +kernel
theorem dL_lives_1009 : decode cL_lives 1009 = .ok (.goto 8, 3) := by decide +kernel
theorem dL_lives_1012 : decode cL_lives 1012 = .ok (.iload 14, 2) := by decide +kernel
theorem dL_lives_1014 : decode cL_lives 1014 = .ok (.iload 16, 2) := by decide +kernel
theorem dL_lives_1016 : decode cL_lives 1016 = .ok (.isub, 1) := by decide +kernel
theorem dL_lives_1017 : decode cL_lives 1017 = .ok (.if_icmp .ne 7, 3) := by decide +kernel
theorem dL_lives_1020 : decode cL_lives 1020 = .ok (.iconst 1, 1) := by decide +kernel
theorem dL_lives_1021 : decode cL_lives 1021 = .ok (.goto 4, 3) := by decide +kernel
theorem dL_lives_1024 : decode cL_lives 1024 = .ok (.iconst 0, 1) := by decide +kernel
theorem dL_lives_1025 : decode cL_lives 1025 = .ok (.ireturn, 1) := by decide +kernel
