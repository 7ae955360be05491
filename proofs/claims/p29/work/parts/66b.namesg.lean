set_option maxRecDepth 20000 in
theorem ggL_unlocks_L_some : GoodIn wsL_unlocks wsL_some := goodIn_r _ [6] (by decide +kernel) (by decide +kernel)
set_option maxRecDepth 20000 in
theorem gL_unlocks_L_some : GoodIn wsL_unlocks (va_wsS RL 121 yL_some wsL_some) := goodIn_app (goodIn_of _ (by decide +kernel)) ggL_unlocks_L_some
set_option maxRecDepth 20000 in
theorem ggL_unlocks_X2_word : GoodIn wsL_unlocks wsX2_word := goodIn_ca (goodIn_r _ [11, 12, 13, 14, 10, 15, 16, 17, 18, 19, 20, 257, 258, 259, 260, 261, 262] (by decide +kernel) (by decide +kernel)) (goodIn_sub (fun _ h => List.mem_cons_of_mem _ (List.mem_append_left _ (List.mem_append_left _ (List.mem_append_right _ h)))) (by decide +kernel))
set_option maxRecDepth 20000 in
theorem gL_unlocks_X2_word : GoodIn wsL_unlocks (wsV RL 106 RX2 yX2_word wsX2_word) := goodIn_app (goodIn_of _ (by decide +kernel)) ggL_unlocks_X2_word
set_option maxRecDepth 20000 in
theorem ggL_unlocks_X2_stateOf : GoodIn wsL_unlocks wsX2_stateOf := goodIn_ca (goodIn_r _ [24, 25, 26, 27, 28, 10, 29, 16, 17, 30, 263, 264, 265, 266, 267, 268, 269, 270, 271, 272, 273, 257, 258, 259, 260, 261, 262] (by decide +kernel) (by decide +kernel)) (goodIn_sub (fun _ h => List.mem_cons_of_mem _ (List.mem_append_left _ (List.mem_append_left _ (List.mem_append_right _ h)))) (by decide +kernel))
set_option maxRecDepth 20000 in
theorem gL_unlocks_X2_stateOf : GoodIn wsL_unlocks (wsV RL 73 RX2 yX2_stateOf wsX2_stateOf) := goodIn_app (goodIn_of _ (by decide +kernel)) ggL_unlocks_X2_stateOf
set_option maxRecDepth 20000 in
theorem ggL_unlocks_L_last : GoodIn wsL_unlocks wsL_last := goodIn_ca (goodIn_r _ [33, 34, 35, 36, 10, 37, 38, 26, 27, 28, 29, 16, 17, 30, 263, 264, 265, 266, 267, 268, 269, 270, 271, 272, 273, 257, 258, 259, 260, 261, 262] (by decide +kernel) (by decide +kernel)) (goodIn_sub (fun _ h => List.mem_cons_of_mem _ (List.mem_append_left _ (List.mem_append_left _ (List.mem_append_right _ h)))) (by decide +kernel))
set_option maxRecDepth 20000 in
theorem gL_unlocks_L_last : GoodIn wsL_unlocks (va_wsS RL 147 yL_last wsL_last) := goodIn_app (goodIn_of _ (by decide +kernel)) ggL_unlocks_L_last
set_option maxRecDepth 20000 in
theorem ggL_unlocks_X2_waiters : GoodIn wsL_unlocks wsX2_waiters := goodIn_ca (goodIn_r _ [42, 30, 43, 13, 14, 10, 15, 16, 17, 18, 19, 20, 257, 258, 259, 260, 261, 262, 263, 264, 265, 266, 267, 268, 269, 270, 271, 272, 273] (by decide +kernel) (by decide +kernel)) (goodIn_sub (fun _ h => List.mem_cons_of_mem _ (List.mem_append_left _ (List.mem_append_left _ (List.mem_append_right _ h)))) (by decide +kernel))
set_option maxRecDepth 20000 in
theorem gL_unlocks_X2_waiters : GoodIn wsL_unlocks (wsV RL 112 RX2 yX2_waiters wsX2_waiters) := goodIn_app (goodIn_of _ (by decide +kernel)) ggL_unlocks_X2_waiters
set_option maxRecDepth 20000 in
theorem ggL_unlocks_X2_waiterAt : GoodIn wsL_unlocks wsX2_waiterAt := goodIn_ca (goodIn_r _ [47, 16, 17, 30, 43, 48, 13, 14, 10, 15, 18, 19, 20, 49, 50, 51, 52, 53, 54, 55, 56, 57, 58, 59, 257, 258, 259, 260, 261, 262, 263, 264, 265, 266, 267, 268, 269, 270, 271, 272, 273] (by decide +kernel) (by decide +kernel)) (goodIn_sub (fun _ h => List.mem_cons_of_mem _ (List.mem_append_left _ (List.mem_append_left _ (List.mem_append_right _ h)))) (by decide +kernel))
set_option maxRecDepth 20000 in
theorem gL_unlocks_X2_waiterAt : GoodIn wsL_unlocks (wsV RL 115 RX2 yX2_waiterAt wsX2_waiterAt) := goodIn_app (goodIn_of _ (by decide +kernel)) ggL_unlocks_X2_waiterAt
set_option maxRecDepth 20000 in
theorem ggL_unlocks_L_threads : GoodIn wsL_unlocks wsL_threads := goodIn_ca (goodIn_r _ [62, 63, 64, 65, 66, 67, 68, 69, 70, 71, 10, 72, 73, 21, 22, 23, 24, 25, 26, 27, 28, 29, 16, 17, 30, 74, 75, 76, 77, 43, 78, 79, 80, 81, 82, 34, 35, 36, 37, 38, 83, 84, 85, 86, 87, 88, 89, 90, 91, 92, 93, 94, 95, 96, 97, 98, 99, 100, 101, 102, 103, 48, 104, 105, 106, 56, 107, 108, 109, 110, 111, 112, 113, 114, 115, 53, 54, 55, 57, 58, 59, 257, 258, 259, 260, 261, 262, 263, 264, 265, 266, 267, 268, 269, 270, 271, 272, 273, 274, 275] (by decide +kernel) (by decide +kernel)) (goodIn_sub (fun _ h => List.mem_cons_of_mem _ (List.mem_append_left _ (List.mem_append_left _ (List.mem_append_right _ h)))) (by decide +kernel))
set_option maxRecDepth 20000 in
theorem gL_unlocks_L_threads : GoodIn wsL_unlocks (va_wsS RL 124 yL_threads wsL_threads) := goodIn_app (goodIn_of _ (by decide +kernel)) ggL_unlocks_L_threads
set_option maxRecDepth 20000 in
theorem ggL_unlocks_L_acts : GoodIn wsL_unlocks wsL_acts := goodIn_ca (goodIn_ca (goodIn_ca (goodIn_r _ [118, 119, 120, 121, 122, 123, 1, 124, 125, 126, 10, 127, 12, 128, 25, 129, 26, 27, 28, 29, 16, 17, 30, 13, 14, 15, 18, 19, 20, 130, 131, 132, 133, 134, 135, 136, 137, 138, 139, 140, 141, 142, 143, 48, 87, 144, 145, 146, 147, 148, 149, 150, 151, 43, 152, 53, 54, 55, 56, 57, 58, 59, 153, 154, 155, 96, 156, 98, 99, 157, 158, 159, 160, 161, 162, 163, 164, 165, 166, 167, 168, 169, 170, 171, 172, 73, 173, 174, 175, 176, 177, 178, 179, 180, 181, 182, 183, 184, 185, 186, 187, 188, 189, 190, 191, 192, 193, 194, 195, 196, 197, 82, 198, 38, 199, 200, 201, 202, 203, 204, 205, 206, 207, 208, 209, 210, 211, 212, 213, 214, 215, 88, 216, 217, 218, 104, 105, 106, 107, 108, 93, 94, 95, 97, 219, 220, 221, 222, 223, 224, 225, 226, 227, 228, 229, 230, 231, 232, 233, 234, 235, 236, 237, 238, 239, 240, 241, 242, 243, 244, 245, 246, 247, 5, 248, 249, 250, 251, 252, 253, 254, 255, 256, 257, 258, 259, 260, 261, 262, 263, 264, 265, 266, 267, 268, 269, 270, 271, 272, 273, 274, 275] (by decide +kernel) (by decide +kernel)) (goodIn_sub (fun _ h => List.mem_cons_of_mem _ (List.mem_append_left _ (List.mem_append_left _ (List.mem_append_right _ h)))) (by decide +kernel))) (goodIn_sub (fun _ h => List.mem_cons_of_mem _ (List.mem_append_left _ (List.mem_append_right _ h))) (by decide +kernel))) (goodIn_sub (fun _ h => List.mem_cons_of_mem _ (List.mem_append_right _ h)) (by decide +kernel))
set_option maxRecDepth 20000 in
theorem gL_unlocks_L_acts : GoodIn wsL_unlocks (va_wsS RL 131 yL_acts wsL_acts) := goodIn_app (goodIn_of _ (by decide +kernel)) ggL_unlocks_L_acts
set_option maxRecDepth 20000 in
theorem ggL_unlocks_X2_locks : GoodIn wsL_unlocks wsX2_locks := goodIn_ca (goodIn_r _ [86, 87, 88, 26, 27, 28, 10, 29, 16, 17, 30, 263, 264, 265, 266, 267, 268, 269, 270, 271, 272, 273, 274, 275, 257, 258, 259, 260, 261, 262] (by decide +kernel) (by decide +kernel)) (goodIn_sub (fun _ h => List.mem_cons_of_mem _ (List.mem_append_left _ (List.mem_append_left _ (List.mem_append_right _ h)))) (by decide +kernel))
set_option maxRecDepth 20000 in
theorem gL_unlocks_X2_locks : GoodIn wsL_unlocks (wsV RL 91 RX2 yX2_locks wsX2_locks) := goodIn_app (goodIn_of _ (by decide +kernel)) ggL_unlocks_X2_locks
set_option maxRecDepth 20000 in
theorem ggL_unlocks_X2_lockAt : GoodIn wsL_unlocks wsX2_lockAt := goodIn_ca (goodIn_r _ [92, 16, 17, 87, 88, 26, 27, 28, 10, 29, 30, 93, 94, 95, 96, 97, 98, 99, 263, 264, 265, 266, 267, 268, 269, 270, 271, 272, 273, 274, 275, 257, 258, 259, 260, 261, 262] (by decide +kernel) (by decide +kernel)) (goodIn_sub (fun _ h => List.mem_cons_of_mem _ (List.mem_append_left _ (List.mem_append_left _ (List.mem_append_right _ h)))) (by decide +kernel))
set_option maxRecDepth 20000 in
theorem gL_unlocks_X2_lockAt : GoodIn wsL_unlocks (wsV RL 94 RX2 yX2_lockAt wsX2_lockAt) := goodIn_app (goodIn_of _ (by decide +kernel)) ggL_unlocks_X2_lockAt
set_option maxRecDepth 20000 in
theorem ggL_unlocks_X2_resultOf : GoodIn wsL_unlocks wsX2_resultOf := goodIn_ca (goodIn_r _ [81, 82, 26, 27, 28, 10, 29, 16, 17, 30, 263, 264, 265, 266, 267, 268, 269, 270, 271, 272, 273, 257, 258, 259, 260, 261, 262] (by decide +kernel) (by decide +kernel)) (goodIn_sub (fun _ h => List.mem_cons_of_mem _ (List.mem_append_left _ (List.mem_append_left _ (List.mem_append_right _ h)))) (by decide +kernel))
set_option maxRecDepth 20000 in
theorem gL_unlocks_X2_resultOf : GoodIn wsL_unlocks (wsV RL 83 RX2 yX2_resultOf wsX2_resultOf) := goodIn_app (goodIn_of _ (by decide +kernel)) ggL_unlocks_X2_resultOf
set_option maxRecDepth 20000 in
theorem ggL_unlocks_X2_serialOf : GoodIn wsL_unlocks wsX2_serialOf := goodIn_ca (goodIn_r _ [37, 38, 26, 27, 28, 10, 29, 16, 17, 30, 263, 264, 265, 266, 267, 268, 269, 270, 271, 272, 273, 257, 258, 259, 260, 261, 262] (by decide +kernel) (by decide +kernel)) (goodIn_sub (fun _ h => List.mem_cons_of_mem _ (List.mem_append_left _ (List.mem_append_left _ (List.mem_append_right _ h)))) (by decide +kernel))
set_option maxRecDepth 20000 in
theorem gL_unlocks_X2_serialOf : GoodIn wsL_unlocks (wsV RL 88 RX2 yX2_serialOf wsX2_serialOf) := goodIn_app (goodIn_of _ (by decide +kernel)) ggL_unlocks_X2_serialOf
theorem dL_unlocks_0 : decode cL_unlocks 0 = .ok (.iload_n 1, 1) := by decide +kernel
theorem dL_unlocks_1 : decode cL_unlocks 1 = .ok (.iconst 4, 1) := by decide +kernel
theorem dL_unlocks_2 : decode cL_unlocks 2 = .ok (.invokestatic 121, 3) := by decide +kernel
theorem dL_unlocks_5 : decode cL_unlocks 5 = .ok (.istore_n 2, 1) := by decide +kernel
theorem dL_unlocks_6 : decode cL_unlocks 6 = .ok (.aload_n 0, 1) := by decide +kernel
theorem dL_unlocks_7 : decode cL_unlocks 7 = .ok (.iload_n 2, 1) := by decide +kernel
theorem dL_unlocks_8 : decode cL_unlocks 8 = .ok (.invokevirtual 106, 3) := by decide +kernel
theorem dL_unlocks_11 : decode cL_unlocks 11 = .ok (.sipush 255, 3) := by decide +kernel
theorem dL_unlocks_14 : decode cL_unlocks 14 = .ok (.iand, 1) := by decide +kernel
theorem dL_unlocks_15 : decode cL_unlocks 15 = .ok (.iconst 1, 1) := by decide +kernel
theorem dL_unlocks_16 : decode cL_unlocks 16 = .ok (.isub, 1) := by decide +kernel
theorem dL_unlocks_17 : decode cL_unlocks 17 = .ok (.istore_n 3, 1) := by decide +kernel
theorem dL_unlocks_18 : decode cL_unlocks 18 = .ok (.iload_n 3, 1) := by decide +kernel
theorem dL_unlocks_19 : decode cL_unlocks 19 = .ok (.ifCond .lt 23, 3) := by decide +kernel
theorem dL_unlocks_22 : decode cL_unlocks 22 = .ok (.iload_n 3, 1) := by decide +kernel
theorem dL_unlocks_23 : decode cL_unlocks 23 = .ok (.bipush 8, 2) := by decide +kernel
theorem dL_unlocks_25 : decode cL_unlocks 25 = .ok (.if_icmp .ge 17, 3) := by decide +kernel
theorem dL_unlocks_28 : decode cL_unlocks 28 = .ok (.iload_n 1, 1) := by decide +kernel
theorem dL_unlocks_29 : decode cL_unlocks 29 = .ok (.iconst 3, 1) := by decide +kernel
theorem dL_unlocks_30 : decode cL_unlocks 30 = .ok (.ishr, 1) := by decide +kernel
theorem dL_unlocks_31 : decode cL_unlocks 31 = .ok (.iconst 5, 1) := by decide +kernel
theorem dL_unlocks_32 : decode cL_unlocks 32 = .ok (.invokestatic 121, 3) := by decide +kernel
theorem dL_unlocks_35 : decode cL_unlocks 35 = .ok (.ifCond .le 7, 3) := by decide +kernel
theorem dL_unlocks_38 : decode cL_unlocks 38 = .ok (.iload_n 3, 1) := by decide +kernel
theorem dL_unlocks_39 : decode cL_unlocks 39 = .ok (.goto 11, 3) := by decide +kernel
theorem dL_unlocks_42 : decode cL_unlocks 42 = .ok (.iload_n 1, 1) := by decide +kernel
theorem dL_unlocks_43 : decode cL_unlocks 43 = .ok (.iconst 5, 1) := by decide +kernel
theorem dL_unlocks_44 : decode cL_unlocks 44 = .ok (.ishr, 1) := by decide +kernel
theorem dL_unlocks_45 : decode cL_unlocks 45 = .ok (.bipush 8, 2) := by decide +kernel
theorem dL_unlocks_47 : decode cL_unlocks 47 = .ok (.invokestatic 121, 3) := by decide +kernel
theorem dL_unlocks_50 : decode cL_unlocks 50 = .ok (.istore 4, 2) := by decide +kernel
theorem dL_unlocks_52 : decode cL_unlocks 52 = .ok (.aload_n 0, 1) := by decide +kernel
theorem dL_unlocks_53 : decode cL_unlocks 53 = .ok (.iload 4, 2) := by decide +kernel
theorem dL_unlocks_55 : decode cL_unlocks 55 = .ok (.invokevirtual 73, 3) := by decide +kernel
theorem dL_unlocks_58 : decode cL_unlocks 58 = .ok (.ifCond .ne 13, 3) := by decide +kernel
theorem dL_unlocks_61 : decode cL_unlocks 61 = .ok (.iload_n 3, 1) := by decide +kernel
theorem dL_unlocks_62 : decode cL_unlocks 62 = .ok (.iload 4, 2) := by decide +kernel
theorem dL_unlocks_64 : decode cL_unlocks 64 = .ok (.if_icmp .ne 7, 3) := by decide +kernel
theorem dL_unlocks_67 : decode cL_unlocks 67 = .ok (.iconst 1, 1) := by decide +kernel
theorem dL_unlocks_68 : decode cL_unlocks 68 = .ok (.goto 4, 3) := by decide +kernel
theorem dL_unlocks_71 : decode cL_unlocks 71 = .ok (.iconst 0, 1) := by decide +kernel
theorem dL_unlocks_72 : decode cL_unlocks 72 = .ok (.istore 5, 2) := by decide +kernel
theorem dL_unlocks_74 : decode cL_unlocks 74 = .ok (.aload_n 0, 1) := by decide +kernel
theorem dL_unlocks_75 : decode cL_unlocks 75 = .ok (.invokestatic 147, 3) := by decide +kernel
theorem dL_unlocks_78 : decode cL_unlocks 78 = .ok (.istore 6, 2) := by decide +kernel
theorem dL_unlocks_80 : decode cL_unlocks 80 = .ok (.iconst (-1), 1) := by decide +kernel
theorem dL_unlocks_81 : decode cL_unlocks 81 = .ok (.istore 7, 2) := by decide +kernel
theorem dL_unlocks_83 : decode cL_unlocks 83 = .ok (.iconst 0, 1) := by decide +kernel
theorem dL_unlocks_84 : decode cL_unlocks 84 = .ok (.istore 8, 2) := by decide +kernel
theorem dL_unlocks_86 : decode cL_unlocks 86 = .ok (.iconst 0, 1) := by decide +kernel
theorem dL_unlocks_87 : decode cL_unlocks 87 = .ok (.istore 9, 2) := by decide +kernel
theorem dL_unlocks_89 : decode cL_unlocks 89 = .ok (.iload 9, 2) := by decide +kernel
theorem dL_unlocks_91 : decode cL_unlocks 91 = .ok (.aload_n 0, 1) := by decide +kernel
theorem dL_unlocks_92 : decode cL_unlocks 92 = .ok (.iload_n 2, 1) := by decide +kernel
theorem dL_unlocks_93 : decode cL_unlocks 93 = .ok (.invokevirtual 112, 3) := by decide +kernel
theorem dL_unlocks_96 : decode cL_unlocks 96 = .ok (.if_icmp .ge 63, 3) := by decide +kernel
theorem dL_unlocks_99 : decode cL_unlocks 99 = .ok (.aload_n 0, 1) := by decide +kernel
theorem dL_unlocks_100 : decode cL_unlocks 100 = .ok (.iload_n 2, 1) := by decide +kernel
theorem dL_unlocks_101 : decode cL_unlocks 101 = .ok (.iload 9, 2) := by decide +kernel
theorem dL_unlocks_103 : decode cL_unlocks 103 = .ok (.invokevirtual 115, 3) := by decide +kernel
theorem dL_unlocks_106 : decode cL_unlocks 106 = .ok (.istore 10, 2) := by decide +kernel
theorem dL_unlocks_108 : decode cL_unlocks 108 = .ok (.iload 8, 2) := by decide +kernel
theorem dL_unlocks_110 : decode cL_unlocks 110 = .ok (.aload_n 0, 1) := by decide +kernel
theorem dL_unlocks_111 : decode cL_unlocks 111 = .ok (.iload 10, 2) := by decide +kernel
theorem dL_unlocks_113 : decode cL_unlocks 113 = .ok (.invokevirtual 73, 3) := by decide +kernel
theorem dL_unlocks_116 : decode cL_unlocks 116 = .ok (.iconst 2, 1) := by decide +kernel
theorem dL_unlocks_117 : decode cL_unlocks 117 = .ok (.if_icmp .ne 7, 3) := by decide +kernel
theorem dL_unlocks_120 : decode cL_unlocks 120 = .ok (.iconst 1, 1) := by decide +kernel
theorem dL_unlocks_121 : decode cL_unlocks 121 = .ok (.goto 4, 3) := by decide +kernel
theorem dL_unlocks_124 : decode cL_unlocks 124 = .ok (.iconst 0, 1) := by decide +kernel
theorem dL_unlocks_125 : decode cL_unlocks 125 = .ok (.iadd, 1) := by decide +kernel
theorem dL_unlocks_126 : decode cL_unlocks 126 = .ok (.istore 8, 2) := by decide +kernel
theorem dL_unlocks_128 : decode cL_unlocks 128 = .ok (.aload_n 0, 1) := by decide +kernel
theorem dL_unlocks_129 : decode cL_unlocks 129 = .ok (.iload 10, 2) := by decide +kernel
theorem dL_unlocks_131 : decode cL_unlocks 131 = .ok (.invokevirtual 73, 3) := by decide +kernel
theorem dL_unlocks_134 : decode cL_unlocks 134 = .ok (.iconst 2, 1) := by decide +kernel
theorem dL_unlocks_135 : decode cL_unlocks 135 = .ok (.if_icmp .ne 14, 3) := by decide +kernel
theorem dL_unlocks_138 : decode cL_unlocks 138 = .ok (.iload 7, 2) := by decide +kernel
theorem dL_unlocks_140 : decode cL_unlocks 140 = .ok (.iconst (-1), 1) := by decide +kernel
theorem dL_unlocks_141 : decode cL_unlocks 141 = .ok (.if_icmp .ne 8, 3) := by decide +kernel
theorem dL_unlocks_144 : decode cL_unlocks 144 = .ok (.iload 10, 2) := by decide +kernel
theorem dL_unlocks_146 : decode cL_unlocks 146 = .ok (.goto 5, 3) := by decide +kernel
theorem dL_unlocks_149 : decode cL_unlocks 149 = .ok (.iload 7, 2) := by decide +kernel
theorem dL_unlocks_151 : decode cL_unlocks 151 = .ok (.istore 7, 2) := by decide +kernel
theorem dL_unlocks_153 : decode cL_unlocks 153 = .ok (.iinc 9 1, 3) := by decide +kernel
theorem dL_unlocks_156 : decode cL_unlocks 156 = .ok (.goto (-67), 3) := by decide +kernel
theorem dL_unlocks_159 : decode cL_unlocks 159 = .ok (.aload_n 0, 1) := by decide +kernel
theorem dL_unlocks_160 : decode cL_unlocks 160 = .ok (.iconst (-1), 1) := by decide +kernel
theorem dL_unlocks_161 : decode cL_unlocks 161 = .ok (.invokestatic 124, 3) := by decide +kernel
theorem dL_unlocks_164 : decode cL_unlocks 164 = .ok (.lstore 9, 2) := by decide +kernel
theorem dL_unlocks_166 : decode cL_unlocks 166 = .ok (.aload_n 0, 1) := by decide +kernel
theorem dL_unlocks_167 : decode cL_unlocks 167 = .ok (.iconst 1, 1) := by decide +kernel
theorem dL_unlocks_168 : decode cL_unlocks 168 = .ok (.iload 4, 2) := by decide +kernel
theorem dL_unlocks_170 : decode cL_unlocks 170 = .ok (.iload_n 2, 1) := by decide +kernel
theorem dL_unlocks_171 : decode cL_unlocks 171 = .ok (.iconst 0, 1) := by decide +kernel
theorem dL_unlocks_172 : decode cL_unlocks 172 = .ok (.iconst 0, 1) := by decide +kernel
theorem dL_unlocks_173 : decode cL_unlocks 173 = .ok (.invokestatic 131, 3) := by decide +kernel
theorem dL_unlocks_176 : decode cL_unlocks 176 = .ok (.istore 11, 2) := by decide +kernel
theorem dL_unlocks_178 : decode cL_unlocks 178 = .ok (.iload 5, 2) := by decide +kernel
theorem dL_unlocks_180 : decode cL_unlocks 180 = .ok (.ifCond .ne 27, 3) := by decide +kernel
theorem dL_unlocks_183 : decode cL_unlocks 183 = .ok (.iload 11, 2) := by decide +kernel
theorem dL_unlocks_185 : decode cL_unlocks 185 = .ok (.ldc 23, 2) := by decide +kernel
theorem dL_unlocks_187 : decode cL_unlocks 187 = .ok (.if_icmp .ne 18, 3) := by decide +kernel
theorem dL_unlocks_190 : decode cL_unlocks 190 = .ok (.aload_n 0, 1) := by decide +kernel
theorem dL_unlocks_191 : decode cL_unlocks 191 = .ok (.iconst (-1), 1) := by decide +kernel
theorem dL_unlocks_192 : decode cL_unlocks 192 = .ok (.invokestatic 124, 3) := by decide +kernel
theorem dL_unlocks_195 : decode cL_unlocks 195 = .ok (.lload 9, 2) := by decide +kernel
theorem dL_unlocks_197 : decode cL_unlocks 197 = .ok (.lcmp, 1) := by decide +kernel
theorem dL_unlocks_198 : decode cL_unlocks 198 = .ok (.ifCond .ne 7, 3) := by decide +kernel
theorem dL_unlocks_201 : decode cL_unlocks 201 = .ok (.iconst 1, 1) := by decide +kernel
theorem dL_unlocks_202 : decode cL_unlocks 202 = .ok (.goto 4, 3) := by decide +kernel
theorem dL_unlocks_205 : decode cL_unlocks 205 = .ok (.iconst 0, 1) := by decide +kernel
theorem dL_unlocks_206 : decode cL_unlocks 206 = .ok (.ireturn, 1) := by decide +kernel
theorem dL_unlocks_207 : decode cL_unlocks 207 = .ok (.iconst 0, 1) := by decide +kernel
theorem dL_unlocks_208 : decode cL_unlocks 208 = .ok (.istore 12, 2) := by decide +kernel
theorem dL_unlocks_210 : decode cL_unlocks 210 = .ok (.iconst 0, 1) := by decide +kernel
theorem dL_unlocks_211 : decode cL_unlocks 211 = .ok (.istore 13, 2) := by decide +kernel
theorem dL_unlocks_213 : decode cL_unlocks 213 = .ok (.iload 13, 2) := by decide +kernel
theorem dL_unlocks_215 : decode cL_unlocks 215 = .ok (.aload_n 0, 1) := by decide +kernel
theorem dL_unlocks_216 : decode cL_unlocks 216 = .ok (.iload 4, 2) := by decide +kernel
theorem dL_unlocks_218 : decode cL_unlocks 218 = .ok (.invokevirtual 91, 3) := by decide +kernel
theorem dL_unlocks_221 : decode cL_unlocks 221 = .ok (.if_icmp .ge 33, 3) := by decide +kernel
theorem dL_unlocks_224 : decode cL_unlocks 224 = .ok (.iload 12, 2) := by decide +kernel
theorem dL_unlocks_226 : decode cL_unlocks 226 = .ok (.ifCond .ne 15, 3) := by decide +kernel
theorem dL_unlocks_229 : decode cL_unlocks 229 = .ok (.aload_n 0, 1) := by decide +kernel
theorem dL_unlocks_230 : decode cL_unlocks 230 = .ok (.iload 4, 2) := by decide +kernel
theorem dL_unlocks_232 : decode cL_unlocks 232 = .ok (.iload 13, 2) := by decide +kernel
theorem dL_unlocks_234 : decode cL_unlocks 234 = .ok (.invokevirtual 94, 3) := by decide +kernel
theorem dL_unlocks_237 : decode cL_unlocks 237 = .ok (.iload_n 2, 1) := by decide +kernel
theorem dL_unlocks_238 : decode cL_unlocks 238 = .ok (.if_icmp .ne 7, 3) := by decide +kernel
theorem dL_unlocks_241 : decode cL_unlocks 241 = .ok (.iconst 1, 1) := by decide +kernel
theorem dL_unlocks_242 : decode cL_unlocks 242 = .ok (.goto 4, 3) := by decide +kernel
theorem dL_unlocks_245 : decode cL_unlocks 245 = .ok (.iconst 0, 1) := by decide +kernel
theorem dL_unlocks_246 : decode cL_unlocks 246 = .ok (.istore 12, 2) := by decide +kernel
theorem dL_unlocks_248 : decode cL_unlocks 248 = .ok (.iinc 13 1, 3) := by decide +kernel
theorem dL_unlocks_251 : decode cL_unlocks 251 = .ok (.goto (-38), 3) := by decide +kernel
theorem dL_unlocks_254 : decode cL_unlocks 254 = .ok (.iload 11, 2) := by decide +kernel
theorem dL_unlocks_256 : decode cL_unlocks 256 = .ok (.iload 7, 2) := by decide +kernel
theorem dL_unlocks_258 : decode cL_unlocks 258 = .ok (.if_icmp .ne 83, 3) := by decide +kernel
theorem dL_unlocks_261 : decode cL_unlocks 261 = .ok (.iload 12, 2) := by decide +kernel
theorem dL_unlocks_263 : decode cL_unlocks 263 = .ok (.ifCond .ne 78, 3) := by decide +kernel
theorem dL_unlocks_266 : decode cL_unlocks 266 = .ok (.aload_n 0, 1) := by decide +kernel
theorem dL_unlocks_267 : decode cL_unlocks 267 = .ok (.iload_n 2, 1) := by decide +kernel
theorem dL_unlocks_268 : decode cL_unlocks 268 = .ok (.invokevirtual 106, 3) := by decide +kernel
theorem dL_unlocks_271 : decode cL_unlocks 271 = .ok (.iload 7, 2) := by decide +kernel
theorem dL_unlocks_273 : decode cL_unlocks 273 = .ok (.iconst (-1), 1) := by decide +kernel
theorem dL_unlocks_274 : decode cL_unlocks 274 = .ok (.if_icmp .ne 7, 3) := by decide +kernel
theorem dL_unlocks_277 : decode cL_unlocks 277 = .ok (.iconst 0, 1) := by decide +kernel
theorem dL_unlocks_278 : decode cL_unlocks 278 = .ok (.goto 20, 3) := by decide +kernel
theorem dL_unlocks_281 : decode cL_unlocks 281 = .ok (.iload 7, 2) := by decide +kernel
theorem dL_unlocks_283 : decode cL_unlocks 283 = .ok (.iconst 1, 1) := by decide +kernel
theorem dL_unlocks_284 : decode cL_unlocks 284 = .ok (.iadd, 1) := by decide +kernel
theorem dL_unlocks_285 : decode cL_unlocks 285 = .ok (.iload 8, 2) := by decide +kernel
theorem dL_unlocks_287 : decode cL_unlocks 287 = .ok (.iconst 1, 1) := by decide +kernel
theorem dL_unlocks_288 : decode cL_unlocks 288 = .ok (.if_icmp .le 8, 3) := by decide +kernel
theorem dL_unlocks_291 : decode cL_unlocks 291 = .ok (.ldc 159, 2) := by decide +kernel
theorem dL_unlocks_293 : decode cL_unlocks 293 = .ok (.goto 4, 3) := by decide +kernel
theorem dL_unlocks_296 : decode cL_unlocks 296 = .ok (.iconst 0, 1) := by decide +kernel
theorem dL_unlocks_297 : decode cL_unlocks 297 = .ok (.ior, 1) := by decide +kernel
theorem dL_unlocks_298 : decode cL_unlocks 298 = .ok (.if_icmp .ne 43, 3) := by decide +kernel
theorem dL_unlocks_301 : decode cL_unlocks 301 = .ok (.iload 7, 2) := by decide +kernel
theorem dL_unlocks_303 : decode cL_unlocks 303 = .ok (.iconst (-1), 1) := by decide +kernel
theorem dL_unlocks_304 : decode cL_unlocks 304 = .ok (.if_icmp .eq 33, 3) := by decide +kernel
theorem dL_unlocks_307 : decode cL_unlocks 307 = .ok (.aload_n 0, 1) := by decide +kernel
theorem dL_unlocks_308 : decode cL_unlocks 308 = .ok (.iload 7, 2) := by decide +kernel
theorem dL_unlocks_310 : decode cL_unlocks 310 = .ok (.invokevirtual 73, 3) := by decide +kernel
theorem dL_unlocks_313 : decode cL_unlocks 313 = .ok (.ifCond .ne 28, 3) := by decide +kernel
theorem dL_unlocks_316 : decode cL_unlocks 316 = .ok (.aload_n 0, 1) := by decide +kernel
theorem dL_unlocks_317 : decode cL_unlocks 317 = .ok (.iload 7, 2) := by decide +kernel
theorem dL_unlocks_319 : decode cL_unlocks 319 = .ok (.invokevirtual 83, 3) := by decide +kernel
theorem dL_unlocks_322 : decode cL_unlocks 322 = .ok (.iconst 3, 1) := by decide +kernel
theorem dL_unlocks_323 : decode cL_unlocks 323 = .ok (.if_icmp .ne 18, 3) := by decide +kernel
theorem dL_unlocks_326 : decode cL_unlocks 326 = .ok (.aload_n 0, 1) := by decide +kernel
theorem dL_unlocks_327 : decode cL_unlocks 327 = .ok (.iload 7, 2) := by decide +kernel
theorem dL_unlocks_329 : decode cL_unlocks 329 = .ok (.invokevirtual 88, 3) := by decide +kernel
theorem dL_unlocks_332 : decode cL_unlocks 332 = .ok (.iload 6, 2) := by decide +kernel
theorem dL_unlocks_334 : decode cL_unlocks 334 = .ok (.if_icmp .le 7, 3) := by decide +kernel
theorem dL_unlocks_337 : decode cL_unlocks 337 = .ok (.iconst 1, 1) := by decide +kernel
theorem dL_unlocks_338 : decode cL_unlocks 338 = .ok (.goto 4, 3) := by decide +kernel
theorem dL_unlocks_341 : decode cL_unlocks 341 = .ok (.iconst 0, 1) := by decide +kernel
theorem dL_unlocks_342 : decode cL_unlocks 342 = .ok (.ireturn, 1) := by decide +kernel
