set_option maxRecDepth 20000 in
theorem ggL_locks_L_some : GoodIn wsL_locks wsL_some := goodIn_r _ [8] (by decide +kernel) (by decide +kernel)
set_option maxRecDepth 20000 in
theorem gL_locks_L_some : GoodIn wsL_locks (va_wsS RL 121 yL_some wsL_some) := goodIn_app (goodIn_of _ (by decide +kernel)) ggL_locks_L_some
set_option maxRecDepth 20000 in
theorem ggL_locks_X2_word : GoodIn wsL_locks wsX2_word := goodIn_ca (goodIn_r _ [13, 14, 15, 16, 12, 17, 18, 19, 20, 21, 22, 284, 285, 286, 287, 288, 289] (by decide +kernel) (by decide +kernel)) (goodIn_sub (fun _ h => List.mem_cons_of_mem _ (List.mem_append_left _ (List.mem_append_left _ (List.mem_append_right _ h)))) (by decide +kernel))
set_option maxRecDepth 20000 in
theorem gL_locks_X2_word : GoodIn wsL_locks (wsV RL 106 RX2 yX2_word wsX2_word) := goodIn_app (goodIn_of _ (by decide +kernel)) ggL_locks_X2_word
set_option maxRecDepth 20000 in
theorem ggL_locks_L_threads : GoodIn wsL_locks wsL_threads := goodIn_ca (goodIn_r _ [25, 26, 27, 28, 29, 30, 31, 32, 33, 34, 12, 35, 36, 37, 38, 39, 40, 41, 42, 43, 44, 45, 18, 19, 46, 47, 48, 49, 50, 51, 52, 53, 54, 55, 56, 57, 58, 59, 60, 61, 62, 63, 64, 65, 66, 67, 68, 69, 70, 71, 72, 73, 74, 75, 76, 77, 78, 79, 80, 81, 82, 83, 84, 85, 86, 87, 88, 89, 90, 91, 92, 93, 94, 95, 96, 97, 98, 99, 100, 101, 102, 284, 285, 286, 287, 288, 289, 290, 291, 292, 293, 294, 295, 296, 297, 298, 299, 300, 301, 302] (by decide +kernel) (by decide +kernel)) (goodIn_sub (fun _ h => List.mem_cons_of_mem _ (List.mem_append_left _ (List.mem_append_left _ (List.mem_append_right _ h)))) (by decide +kernel))
set_option maxRecDepth 20000 in
theorem gL_locks_L_threads : GoodIn wsL_locks (va_wsS RL 124 yL_threads wsL_threads) := goodIn_app (goodIn_of _ (by decide +kernel)) ggL_locks_L_threads
set_option maxRecDepth 20000 in
theorem ggL_locks_L_words : GoodIn wsL_locks wsL_words := goodIn_ca (goodIn_r _ [105, 106, 9, 10, 11, 12, 13, 14, 15, 16, 17, 18, 19, 20, 21, 22, 284, 285, 286, 287, 288, 289] (by decide +kernel) (by decide +kernel)) (goodIn_sub (fun _ h => List.mem_cons_of_mem _ (List.mem_append_left _ (List.mem_append_left _ (List.mem_append_right _ h)))) (by decide +kernel))
set_option maxRecDepth 20000 in
theorem gL_locks_L_words : GoodIn wsL_locks (va_wsS RL 128 yL_words wsL_words) := goodIn_app (goodIn_of _ (by decide +kernel)) ggL_locks_L_words
set_option maxRecDepth 20000 in
theorem ggL_locks_X2_stateOf : GoodIn wsL_locks wsX2_stateOf := goodIn_ca (goodIn_r _ [40, 41, 42, 43, 44, 12, 45, 18, 19, 46, 290, 291, 292, 293, 294, 295, 296, 297, 298, 299, 300, 284, 285, 286, 287, 288, 289] (by decide +kernel) (by decide +kernel)) (goodIn_sub (fun _ h => List.mem_cons_of_mem _ (List.mem_append_left _ (List.mem_append_left _ (List.mem_append_right _ h)))) (by decide +kernel))
set_option maxRecDepth 20000 in
theorem gL_locks_X2_stateOf : GoodIn wsL_locks (wsV RL 73 RX2 yX2_stateOf wsX2_stateOf) := goodIn_app (goodIn_of _ (by decide +kernel)) ggL_locks_X2_stateOf
set_option maxRecDepth 20000 in
theorem ggL_locks_X2_locks : GoodIn wsL_locks wsX2_locks := goodIn_ca (goodIn_r _ [65, 66, 67, 42, 43, 44, 12, 45, 18, 19, 46, 290, 291, 292, 293, 294, 295, 296, 297, 298, 299, 300, 301, 302, 284, 285, 286, 287, 288, 289] (by decide +kernel) (by decide +kernel)) (goodIn_sub (fun _ h => List.mem_cons_of_mem _ (List.mem_append_left _ (List.mem_append_left _ (List.mem_append_right _ h)))) (by decide +kernel))
set_option maxRecDepth 20000 in
theorem gL_locks_X2_locks : GoodIn wsL_locks (wsV RL 91 RX2 yX2_locks wsX2_locks) := goodIn_app (goodIn_of _ (by decide +kernel)) ggL_locks_X2_locks
set_option maxRecDepth 20000 in
theorem ggL_locks_X2_waiters : GoodIn wsL_locks wsX2_waiters := goodIn_ca (goodIn_r _ [110, 46, 51, 15, 16, 12, 17, 18, 19, 20, 21, 22, 284, 285, 286, 287, 288, 289, 290, 291, 292, 293, 294, 295, 296, 297, 298, 299, 300] (by decide +kernel) (by decide +kernel)) (goodIn_sub (fun _ h => List.mem_cons_of_mem _ (List.mem_append_left _ (List.mem_append_left _ (List.mem_append_right _ h)))) (by decide +kernel))
set_option maxRecDepth 20000 in
theorem gL_locks_X2_waiters : GoodIn wsL_locks (wsV RL 112 RX2 yX2_waiters wsX2_waiters) := goodIn_app (goodIn_of _ (by decide +kernel)) ggL_locks_X2_waiters
set_option maxRecDepth 20000 in
theorem ggL_locks_X2_waiterAt : GoodIn wsL_locks wsX2_waiterAt := goodIn_ca (goodIn_r _ [114, 18, 19, 46, 51, 83, 15, 16, 12, 17, 20, 21, 22, 115, 116, 117, 118, 97, 98, 99, 87, 100, 101, 102, 284, 285, 286, 287, 288, 289, 290, 291, 292, 293, 294, 295, 296, 297, 298, 299, 300] (by decide +kernel) (by decide +kernel)) (goodIn_sub (fun _ h => List.mem_cons_of_mem _ (List.mem_append_left _ (List.mem_append_left _ (List.mem_append_right _ h)))) (by decide +kernel))
set_option maxRecDepth 20000 in
theorem gL_locks_X2_waiterAt : GoodIn wsL_locks (wsV RL 115 RX2 yX2_waiterAt wsX2_waiterAt) := goodIn_app (goodIn_of _ (by decide +kernel)) ggL_locks_X2_waiterAt
set_option maxRecDepth 20000 in
theorem ggL_locks_L_acts : GoodIn wsL_locks wsL_acts := goodIn_ca (goodIn_ca (goodIn_ca (goodIn_r _ [121, 122, 123, 124, 1, 2, 3, 125, 126, 127, 12, 128, 14, 129, 41, 130, 42, 43, 44, 45, 18, 19, 46, 15, 16, 17, 20, 21, 22, 131, 132, 133, 134, 135, 136, 137, 138, 139, 140, 141, 142, 143, 144, 83, 66, 145, 146, 147, 148, 149, 150, 151, 152, 51, 153, 97, 98, 99, 87, 100, 101, 102, 154, 155, 156, 75, 157, 77, 78, 158, 159, 160, 161, 162, 163, 164, 165, 166, 167, 168, 169, 170, 171, 172, 173, 36, 174, 175, 176, 177, 178, 179, 180, 181, 182, 183, 184, 185, 186, 187, 188, 189, 190, 191, 192, 193, 194, 195, 196, 197, 198, 56, 199, 61, 200, 201, 202, 203, 204, 205, 206, 207, 208, 209, 210, 211, 212, 213, 214, 215, 216, 67, 217, 218, 219, 84, 85, 86, 88, 89, 72, 73, 74, 76, 220, 221, 222, 223, 224, 225, 226, 227, 228, 229, 230, 231, 232, 233, 234, 235, 236, 237, 238, 239, 240, 241, 242, 243, 244, 245, 246, 247, 248, 7, 249, 250, 251, 252, 253, 254, 255, 256, 257, 284, 285, 286, 287, 288, 289, 290, 291, 292, 293, 294, 295, 296, 297, 298, 299, 300, 301, 302] (by decide +kernel) (by decide +kernel)) (goodIn_sub (fun _ h => List.mem_cons_of_mem _ (List.mem_append_left _ (List.mem_append_left _ (List.mem_append_right _ h)))) (by decide +kernel))) (goodIn_sub (fun _ h => List.mem_cons_of_mem _ (List.mem_append_left _ (List.mem_append_right _ h))) (by decide +kernel))) (goodIn_sub (fun _ h => List.mem_cons_of_mem _ (List.mem_append_right _ h)) (by decide +kernel))
set_option maxRecDepth 20000 in
theorem gL_locks_L_acts : GoodIn wsL_locks (va_wsS RL 131 yL_acts wsL_acts) := goodIn_app (goodIn_of _ (by decide +kernel)) ggL_locks_L_acts
set_option maxRecDepth 20000 in
theorem ggL_locks_X2_blockedBy : GoodIn wsL_locks wsX2_blockedBy := goodIn_ca (goodIn_r _ [261, 42, 43, 44, 12, 45, 18, 19, 46, 262, 263, 264, 87, 265, 266, 267, 268, 269, 270, 41, 51, 162, 163, 164, 165, 14, 20, 21, 22, 271, 272, 273, 274, 275, 276, 277, 284, 285, 286, 287, 288, 289, 290, 291, 292, 293, 294, 295, 296, 297, 298, 299, 300] (by decide +kernel) (by decide +kernel)) (goodIn_sub (fun _ h => List.mem_cons_of_mem _ (List.mem_append_left _ (List.mem_append_left _ (List.mem_append_right _ h)))) (by decide +kernel))
set_option maxRecDepth 20000 in
theorem gL_locks_X2_blockedBy : GoodIn wsL_locks (wsV RL 156 RX2 yX2_blockedBy wsX2_blockedBy) := goodIn_app (goodIn_of _ (by decide +kernel)) ggL_locks_X2_blockedBy
set_option maxRecDepth 20000 in
theorem ggL_locks_L_joined : GoodIn wsL_locks wsL_joined := goodIn_ca (goodIn_r _ [280, 281, 282, 7, 283, 79, 80, 81, 12, 82, 18, 19, 46, 51, 83, 84, 85, 86, 87, 88, 89, 90, 91, 92, 93, 94, 95, 96, 97, 98, 99, 100, 101, 102, 47, 48, 49, 50, 42, 43, 44, 45, 284, 285, 286, 287, 288, 289, 290, 291, 292, 293, 294, 295, 296, 297, 298, 299, 300] (by decide +kernel) (by decide +kernel)) (goodIn_sub (fun _ h => List.mem_cons_of_mem _ (List.mem_append_left _ (List.mem_append_left _ (List.mem_append_right _ h)))) (by decide +kernel))
set_option maxRecDepth 20000 in
theorem gL_locks_L_joined : GoodIn wsL_locks (va_wsS RL 143 yL_joined wsL_joined) := goodIn_app (goodIn_of _ (by decide +kernel)) ggL_locks_L_joined
set_option maxRecDepth 20000 in
theorem ggL_locks_X2_lockAt : GoodIn wsL_locks wsX2_lockAt := goodIn_ca (goodIn_r _ [71, 18, 19, 66, 67, 42, 43, 44, 12, 45, 46, 72, 73, 74, 75, 76, 77, 78, 290, 291, 292, 293, 294, 295, 296, 297, 298, 299, 300, 301, 302, 284, 285, 286, 287, 288, 289] (by decide +kernel) (by decide +kernel)) (goodIn_sub (fun _ h => List.mem_cons_of_mem _ (List.mem_append_left _ (List.mem_append_left _ (List.mem_append_right _ h)))) (by decide +kernel))
set_option maxRecDepth 20000 in
theorem gL_locks_X2_lockAt : GoodIn wsL_locks (wsV RL 94 RX2 yX2_lockAt wsX2_lockAt) := goodIn_app (goodIn_of _ (by decide +kernel)) ggL_locks_X2_lockAt
theorem dL_locks_0 : decode cL_locks 0 = .ok (.iload_n 3, 1) := by decide +kernel
theorem dL_locks_1 : decode cL_locks 1 = .ok (.ifCond .eq 16, 3) := by decide +kernel
theorem dL_locks_4 : decode cL_locks 4 = .ok (.iload_n 2, 1) := by decide +kernel
theorem dL_locks_5 : decode cL_locks 5 = .ok (.iconst 2, 1) := by decide +kernel
theorem dL_locks_6 : decode cL_locks 6 = .ok (.ishr, 1) := by decide +kernel
theorem dL_locks_7 : decode cL_locks 7 = .ok (.bipush 10, 2) := by decide +kernel
theorem dL_locks_9 : decode cL_locks 9 = .ok (.invokestatic 121, 3) := by decide +kernel
theorem dL_locks_12 : decode cL_locks 12 = .ok (.iconst 1, 1) := by decide +kernel
theorem dL_locks_13 : decode cL_locks 13 = .ok (.isub, 1) := by decide +kernel
theorem dL_locks_14 : decode cL_locks 14 = .ok (.goto 11, 3) := by decide +kernel
theorem dL_locks_17 : decode cL_locks 17 = .ok (.iload_n 2, 1) := by decide +kernel
theorem dL_locks_18 : decode cL_locks 18 = .ok (.iconst 2, 1) := by decide +kernel
theorem dL_locks_19 : decode cL_locks 19 = .ok (.ishr, 1) := by decide +kernel
theorem dL_locks_20 : decode cL_locks 20 = .ok (.bipush 8, 2) := by decide +kernel
theorem dL_locks_22 : decode cL_locks 22 = .ok (.invokestatic 121, 3) := by decide +kernel
theorem dL_locks_25 : decode cL_locks 25 = .ok (.istore 4, 2) := by decide +kernel
theorem dL_locks_27 : decode cL_locks 27 = .ok (.iload_n 3, 1) := by decide +kernel
theorem dL_locks_28 : decode cL_locks 28 = .ok (.ifCond .eq 17, 3) := by decide +kernel
theorem dL_locks_31 : decode cL_locks 31 = .ok (.iload_n 2, 1) := by decide +kernel
theorem dL_locks_32 : decode cL_locks 32 = .ok (.bipush 6, 2) := by decide +kernel
theorem dL_locks_34 : decode cL_locks 34 = .ok (.ishr, 1) := by decide +kernel
theorem dL_locks_35 : decode cL_locks 35 = .ok (.bipush 18, 2) := by decide +kernel
theorem dL_locks_37 : decode cL_locks 37 = .ok (.invokestatic 121, 3) := by decide +kernel
theorem dL_locks_40 : decode cL_locks 40 = .ok (.iconst 1, 1) := by decide +kernel
theorem dL_locks_41 : decode cL_locks 41 = .ok (.isub, 1) := by decide +kernel
theorem dL_locks_42 : decode cL_locks 42 = .ok (.goto 11, 3) := by decide +kernel
theorem dL_locks_45 : decode cL_locks 45 = .ok (.iload_n 2, 1) := by decide +kernel
theorem dL_locks_46 : decode cL_locks 46 = .ok (.bipush 6, 2) := by decide +kernel
theorem dL_locks_48 : decode cL_locks 48 = .ok (.ishr, 1) := by decide +kernel
theorem dL_locks_49 : decode cL_locks 49 = .ok (.iconst 4, 1) := by decide +kernel
theorem dL_locks_50 : decode cL_locks 50 = .ok (.invokestatic 121, 3) := by decide +kernel
theorem dL_locks_53 : decode cL_locks 53 = .ok (.istore 5, 2) := by decide +kernel
theorem dL_locks_55 : decode cL_locks 55 = .ok (.iload 4, 2) := by decide +kernel
theorem dL_locks_57 : decode cL_locks 57 = .ok (.ifCond .lt 22, 3) := by decide +kernel
theorem dL_locks_60 : decode cL_locks 60 = .ok (.iload 4, 2) := by decide +kernel
theorem dL_locks_62 : decode cL_locks 62 = .ok (.bipush 7, 2) := by decide +kernel
theorem dL_locks_64 : decode cL_locks 64 = .ok (.if_icmp .gt 15, 3) := by decide +kernel
theorem dL_locks_67 : decode cL_locks 67 = .ok (.iload 5, 2) := by decide +kernel
theorem dL_locks_69 : decode cL_locks 69 = .ok (.ifCond .lt 10, 3) := by decide +kernel
theorem dL_locks_72 : decode cL_locks 72 = .ok (.iload 5, 2) := by decide +kernel
theorem dL_locks_74 : decode cL_locks 74 = .ok (.bipush 15, 2) := by decide +kernel
theorem dL_locks_76 : decode cL_locks 76 = .ok (.if_icmp .le 7, 3) := by decide +kernel
theorem dL_locks_79 : decode cL_locks 79 = .ok (.iconst 1, 1) := by decide +kernel
theorem dL_locks_80 : decode cL_locks 80 = .ok (.goto 4, 3) := by decide +kernel
theorem dL_locks_83 : decode cL_locks 83 = .ok (.iconst 0, 1) := by decide +kernel
theorem dL_locks_84 : decode cL_locks 84 = .ok (.istore 6, 2) := by decide +kernel
theorem dL_locks_86 : decode cL_locks 86 = .ok (.iload_n 3, 1) := by decide +kernel
theorem dL_locks_87 : decode cL_locks 87 = .ok (.ifCond .eq 18, 3) := by decide +kernel
theorem dL_locks_90 : decode cL_locks 90 = .ok (.iload_n 2, 1) := by decide +kernel
theorem dL_locks_91 : decode cL_locks 91 = .ok (.bipush 9, 2) := by decide +kernel
theorem dL_locks_93 : decode cL_locks 93 = .ok (.ishr, 1) := by decide +kernel
theorem dL_locks_94 : decode cL_locks 94 = .ok (.sipush 10010, 3) := by decide +kernel
theorem dL_locks_97 : decode cL_locks 97 = .ok (.invokestatic 121, 3) := by decide +kernel
theorem dL_locks_100 : decode cL_locks 100 = .ok (.iconst 5, 1) := by decide +kernel
theorem dL_locks_101 : decode cL_locks 101 = .ok (.isub, 1) := by decide +kernel
theorem dL_locks_102 : decode cL_locks 102 = .ok (.goto 29, 3) := by decide +kernel
theorem dL_locks_105 : decode cL_locks 105 = .ok (.iload_n 2, 1) := by decide +kernel
theorem dL_locks_106 : decode cL_locks 106 = .ok (.bipush 9, 2) := by decide +kernel
theorem dL_locks_108 : decode cL_locks 108 = .ok (.ishr, 1) := by decide +kernel
theorem dL_locks_109 : decode cL_locks 109 = .ok (.iconst 2, 1) := by decide +kernel
theorem dL_locks_110 : decode cL_locks 110 = .ok (.invokestatic 121, 3) := by decide +kernel
theorem dL_locks_113 : decode cL_locks 113 = .ok (.ifCond .ne 7, 3) := by decide +kernel
theorem dL_locks_116 : decode cL_locks 116 = .ok (.iconst 0, 1) := by decide +kernel
theorem dL_locks_117 : decode cL_locks 117 = .ok (.goto 14, 3) := by decide +kernel
theorem dL_locks_120 : decode cL_locks 120 = .ok (.iconst 1, 1) := by decide +kernel
theorem dL_locks_121 : decode cL_locks 121 = .ok (.iload_n 2, 1) := by decide +kernel
theorem dL_locks_122 : decode cL_locks 122 = .ok (.bipush 11, 2) := by decide +kernel
theorem dL_locks_124 : decode cL_locks 124 = .ok (.ishr, 1) := by decide +kernel
theorem dL_locks_125 : decode cL_locks 125 = .ok (.bipush 20, 2) := by decide +kernel
theorem dL_locks_127 : decode cL_locks 127 = .ok (.invokestatic 121, 3) := by decide +kernel
theorem dL_locks_130 : decode cL_locks 130 = .ok (.iadd, 1) := by decide +kernel
theorem dL_locks_131 : decode cL_locks 131 = .ok (.istore 7, 2) := by decide +kernel
theorem dL_locks_133 : decode cL_locks 133 = .ok (.iload 7, 2) := by decide +kernel
theorem dL_locks_135 : decode cL_locks 135 = .ok (.ifCond .lt 11, 3) := by decide +kernel
theorem dL_locks_138 : decode cL_locks 138 = .ok (.iload 7, 2) := by decide +kernel
theorem dL_locks_140 : decode cL_locks 140 = .ok (.sipush 10000, 3) := by decide +kernel
theorem dL_locks_143 : decode cL_locks 143 = .ok (.if_icmp .le 7, 3) := by decide +kernel
theorem dL_locks_146 : decode cL_locks 146 = .ok (.iconst 1, 1) := by decide +kernel
theorem dL_locks_147 : decode cL_locks 147 = .ok (.goto 4, 3) := by decide +kernel
theorem dL_locks_150 : decode cL_locks 150 = .ok (.iconst 0, 1) := by decide +kernel
theorem dL_locks_151 : decode cL_locks 151 = .ok (.istore 8, 2) := by decide +kernel
theorem dL_locks_153 : decode cL_locks 153 = .ok (.iload 6, 2) := by decide +kernel
theorem dL_locks_155 : decode cL_locks 155 = .ok (.ifCond .eq 7, 3) := by decide +kernel
theorem dL_locks_158 : decode cL_locks 158 = .ok (.iconst 0, 1) := by decide +kernel
theorem dL_locks_159 : decode cL_locks 159 = .ok (.goto 9, 3) := by decide +kernel
theorem dL_locks_162 : decode cL_locks 162 = .ok (.aload_n 0, 1) := by decide +kernel
theorem dL_locks_163 : decode cL_locks 163 = .ok (.iload 5, 2) := by decide +kernel
theorem dL_locks_165 : decode cL_locks 165 = .ok (.invokevirtual 106, 3) := by decide +kernel
theorem dL_locks_168 : decode cL_locks 168 = .ok (.istore 9, 2) := by decide +kernel
theorem dL_locks_170 : decode cL_locks 170 = .ok (.iload 9, 2) := by decide +kernel
theorem dL_locks_172 : decode cL_locks 172 = .ok (.sipush 255, 3) := by decide +kernel
theorem dL_locks_175 : decode cL_locks 175 = .ok (.iand, 1) := by decide +kernel
theorem dL_locks_176 : decode cL_locks 176 = .ok (.iconst 1, 1) := by decide +kernel
theorem dL_locks_177 : decode cL_locks 177 = .ok (.isub, 1) := by decide +kernel
theorem dL_locks_178 : decode cL_locks 178 = .ok (.istore 10, 2) := by decide +kernel
theorem dL_locks_180 : decode cL_locks 180 = .ok (.aload_n 0, 1) := by decide +kernel
theorem dL_locks_181 : decode cL_locks 181 = .ok (.iconst (-1), 1) := by decide +kernel
theorem dL_locks_182 : decode cL_locks 182 = .ok (.invokestatic 124, 3) := by decide +kernel
theorem dL_locks_185 : decode cL_locks 185 = .ok (.lstore 11, 2) := by decide +kernel
theorem dL_locks_187 : decode cL_locks 187 = .ok (.aload_n 0, 1) := by decide +kernel
theorem dL_locks_188 : decode cL_locks 188 = .ok (.iload 6, 2) := by decide +kernel
theorem dL_locks_190 : decode cL_locks 190 = .ok (.ifCond .eq 7, 3) := by decide +kernel
theorem dL_locks_193 : decode cL_locks 193 = .ok (.iconst (-1), 1) := by decide +kernel
theorem dL_locks_194 : decode cL_locks 194 = .ok (.goto 5, 3) := by decide +kernel
theorem dL_locks_197 : decode cL_locks 197 = .ok (.iload 4, 2) := by decide +kernel
theorem dL_locks_199 : decode cL_locks 199 = .ok (.invokestatic 124, 3) := by decide +kernel
theorem dL_locks_202 : decode cL_locks 202 = .ok (.lstore 13, 2) := by decide +kernel
theorem dL_locks_204 : decode cL_locks 204 = .ok (.aload_n 0, 1) := by decide +kernel
theorem dL_locks_205 : decode cL_locks 205 = .ok (.iconst (-1), 1) := by decide +kernel
theorem dL_locks_206 : decode cL_locks 206 = .ok (.invokestatic 128, 3) := by decide +kernel
theorem dL_locks_209 : decode cL_locks 209 = .ok (.lstore 15, 2) := by decide +kernel
theorem dL_locks_211 : decode cL_locks 211 = .ok (.iload 6, 2) := by decide +kernel
theorem dL_locks_213 : decode cL_locks 213 = .ok (.ifCond .ne 16, 3) := by decide +kernel
theorem dL_locks_216 : decode cL_locks 216 = .ok (.aload_n 0, 1) := by decide +kernel
theorem dL_locks_217 : decode cL_locks 217 = .ok (.iload 4, 2) := by decide +kernel
theorem dL_locks_219 : decode cL_locks 219 = .ok (.invokevirtual 73, 3) := by decide +kernel
theorem dL_locks_222 : decode cL_locks 222 = .ok (.ifCond .ne 7, 3) := by decide +kernel
theorem dL_locks_225 : decode cL_locks 225 = .ok (.iconst 1, 1) := by decide +kernel
theorem dL_locks_226 : decode cL_locks 226 = .ok (.goto 4, 3) := by decide +kernel
theorem dL_locks_229 : decode cL_locks 229 = .ok (.iconst 0, 1) := by decide +kernel
theorem dL_locks_230 : decode cL_locks 230 = .ok (.istore 17, 2) := by decide +kernel
theorem dL_locks_232 : decode cL_locks 232 = .ok (.iload 17, 2) := by decide +kernel
theorem dL_locks_234 : decode cL_locks 234 = .ok (.ifCond .eq 12, 3) := by decide +kernel
theorem dL_locks_237 : decode cL_locks 237 = .ok (.aload_n 0, 1) := by decide +kernel
theorem dL_locks_238 : decode cL_locks 238 = .ok (.iload 4, 2) := by decide +kernel
theorem dL_locks_240 : decode cL_locks 240 = .ok (.invokevirtual 91, 3) := by decide +kernel
theorem dL_locks_243 : decode cL_locks 243 = .ok (.goto 4, 3) := by decide +kernel
theorem dL_locks_246 : decode cL_locks 246 = .ok (.iconst 0, 1) := by decide +kernel
theorem dL_locks_247 : decode cL_locks 247 = .ok (.istore 18, 2) := by decide +kernel
theorem dL_locks_249 : decode cL_locks 249 = .ok (.iconst 0, 1) := by decide +kernel
theorem dL_locks_250 : decode cL_locks 250 = .ok (.istore 19, 2) := by decide +kernel
theorem dL_locks_252 : decode cL_locks 252 = .ok (.iconst 0, 1) := by decide +kernel
theorem dL_locks_253 : decode cL_locks 253 = .ok (.istore 20, 2) := by decide +kernel
theorem dL_locks_255 : decode cL_locks 255 = .ok (.iload 6, 2) := by decide +kernel
theorem dL_locks_257 : decode cL_locks 257 = .ok (.ifCond .ne 48, 3) := by decide +kernel
theorem dL_locks_260 : decode cL_locks 260 = .ok (.iload 20, 2) := by decide +kernel
theorem dL_locks_262 : decode cL_locks 262 = .ok (.aload_n 0, 1) := by decide +kernel
theorem dL_locks_263 : decode cL_locks 263 = .ok (.iload 5, 2) := by decide +kernel
theorem dL_locks_265 : decode cL_locks 265 = .ok (.invokevirtual 112, 3) := by decide +kernel
theorem dL_locks_268 : decode cL_locks 268 = .ok (.if_icmp .ge 37, 3) := by decide +kernel
theorem dL_locks_271 : decode cL_locks 271 = .ok (.iload 19, 2) := by decide +kernel
theorem dL_locks_273 : decode cL_locks 273 = .ok (.ifCond .ne 19, 3) := by decide +kernel
theorem dL_locks_276 : decode cL_locks 276 = .ok (.aload_n 0, 1) := by decide +kernel
theorem dL_locks_277 : decode cL_locks 277 = .ok (.aload_n 0, 1) := by decide +kernel
theorem dL_locks_278 : decode cL_locks 278 = .ok (.iload 5, 2) := by decide +kernel
theorem dL_locks_280 : decode cL_locks 280 = .ok (.iload 20, 2) := by decide +kernel
theorem dL_locks_282 : decode cL_locks 282 = .ok (.invokevirtual 115, 3) := by decide +kernel
theorem dL_locks_285 : decode cL_locks 285 = .ok (.invokevirtual 73, 3) := by decide +kernel
theorem dL_locks_288 : decode cL_locks 288 = .ok (.iconst 2, 1) := by decide +kernel
theorem dL_locks_289 : decode cL_locks 289 = .ok (.if_icmp .ne 7, 3) := by decide +kernel
theorem dL_locks_292 : decode cL_locks 292 = .ok (.iconst 1, 1) := by decide +kernel
theorem dL_locks_293 : decode cL_locks 293 = .ok (.goto 4, 3) := by decide +kernel
theorem dL_locks_296 : decode cL_locks 296 = .ok (.iconst 0, 1) := by decide +kernel
theorem dL_locks_297 : decode cL_locks 297 = .ok (.istore 19, 2) := by decide +kernel
theorem dL_locks_299 : decode cL_locks 299 = .ok (.iinc 20 1, 3) := by decide +kernel
theorem dL_locks_302 : decode cL_locks 302 = .ok (.goto (-47), 3) := by decide +kernel
theorem dL_locks_305 : decode cL_locks 305 = .ok (.iload 10, 2) := by decide +kernel
theorem dL_locks_307 : decode cL_locks 307 = .ok (.bipush 7, 2) := by decide +kernel
theorem dL_locks_309 : decode cL_locks 309 = .ok (.if_icmp .gt 18, 3) := by decide +kernel
theorem dL_locks_312 : decode cL_locks 312 = .ok (.iload 10, 2) := by decide +kernel
theorem dL_locks_314 : decode cL_locks 314 = .ok (.ifCond .lt 17, 3) := by decide +kernel
theorem dL_locks_317 : decode cL_locks 317 = .ok (.aload_n 0, 1) := by decide +kernel
theorem dL_locks_318 : decode cL_locks 318 = .ok (.iload 10, 2) := by decide +kernel
theorem dL_locks_320 : decode cL_locks 320 = .ok (.invokevirtual 73, 3) := by decide +kernel
theorem dL_locks_323 : decode cL_locks 323 = .ok (.iconst 3, 1) := by decide +kernel
theorem dL_locks_324 : decode cL_locks 324 = .ok (.if_icmp .ne 7, 3) := by decide +kernel
theorem dL_locks_327 : decode cL_locks 327 = .ok (.iconst 1, 1) := by decide +kernel
theorem dL_locks_328 : decode cL_locks 328 = .ok (.goto 4, 3) := by decide +kernel
theorem dL_locks_331 : decode cL_locks 331 = .ok (.iconst 0, 1) := by decide +kernel
theorem dL_locks_332 : decode cL_locks 332 = .ok (.istore 20, 2) := by decide +kernel
theorem dL_locks_334 : decode cL_locks 334 = .ok (.aload_n 0, 1) := by decide +kernel
theorem dL_locks_335 : decode cL_locks 335 = .ok (.iconst 0, 1) := by decide +kernel
theorem dL_locks_336 : decode cL_locks 336 = .ok (.iload 4, 2) := by decide +kernel
theorem dL_locks_338 : decode cL_locks 338 = .ok (.iload 5, 2) := by decide +kernel
theorem dL_locks_340 : decode cL_locks 340 = .ok (.iload 7, 2) := by decide +kernel
theorem dL_locks_342 : decode cL_locks 342 = .ok (.iconst 0, 1) := by decide +kernel
theorem dL_locks_343 : decode cL_locks 343 = .ok (.invokestatic 131, 3) := by decide +kernel
theorem dL_locks_346 : decode cL_locks 346 = .ok (.istore 21, 2) := by decide +kernel
theorem dL_locks_348 : decode cL_locks 348 = .ok (.iload 6, 2) := by decide +kernel
theorem dL_locks_350 : decode cL_locks 350 = .ok (.ifCond .ne 13, 3) := by decide +kernel
theorem dL_locks_353 : decode cL_locks 353 = .ok (.iload 8, 2) := by decide +kernel
theorem dL_locks_355 : decode cL_locks 355 = .ok (.ifCond .ne 8, 3) := by decide +kernel
theorem dL_locks_358 : decode cL_locks 358 = .ok (.iload 17, 2) := by decide +kernel
theorem dL_locks_360 : decode cL_locks 360 = .ok (.ifCond .ne 58, 3) := by decide +kernel
theorem dL_locks_363 : decode cL_locks 363 = .ok (.iload 21, 2) := by decide +kernel
theorem dL_locks_365 : decode cL_locks 365 = .ok (.iload 6, 2) := by decide +kernel
theorem dL_locks_367 : decode cL_locks 367 = .ok (.ifCond .eq 8, 3) := by decide +kernel
theorem dL_locks_370 : decode cL_locks 370 = .ok (.ldc 17, 2) := by decide +kernel
theorem dL_locks_372 : decode cL_locks 372 = .ok (.goto 15, 3) := by decide +kernel
theorem dL_locks_375 : decode cL_locks 375 = .ok (.iload 8, 2) := by decide +kernel
theorem dL_locks_377 : decode cL_locks 377 = .ok (.ifCond .eq 8, 3) := by decide +kernel
theorem dL_locks_380 : decode cL_locks 380 = .ok (.ldc 20, 2) := by decide +kernel
theorem dL_locks_382 : decode cL_locks 382 = .ok (.goto 5, 3) := by decide +kernel
theorem dL_locks_385 : decode cL_locks 385 = .ok (.ldc 23, 2) := by decide +kernel
theorem dL_locks_387 : decode cL_locks 387 = .ok (.if_icmp .ne 29, 3) := by decide +kernel
theorem dL_locks_390 : decode cL_locks 390 = .ok (.aload_n 0, 1) := by decide +kernel
theorem dL_locks_391 : decode cL_locks 391 = .ok (.iconst (-1), 1) := by decide +kernel
theorem dL_locks_392 : decode cL_locks 392 = .ok (.invokestatic 124, 3) := by decide +kernel
theorem dL_locks_395 : decode cL_locks 395 = .ok (.lload 11, 2) := by decide +kernel
theorem dL_locks_397 : decode cL_locks 397 = .ok (.lcmp, 1) := by decide +kernel
theorem dL_locks_398 : decode cL_locks 398 = .ok (.ifCond .ne 18, 3) := by decide +kernel
theorem dL_locks_401 : decode cL_locks 401 = .ok (.aload_n 0, 1) := by decide +kernel
theorem dL_locks_402 : decode cL_locks 402 = .ok (.iconst (-1), 1) := by decide +kernel
theorem dL_locks_403 : decode cL_locks 403 = .ok (.invokestatic 128, 3) := by decide +kernel
theorem dL_locks_406 : decode cL_locks 406 = .ok (.lload 15, 2) := by decide +kernel
theorem dL_locks_408 : decode cL_locks 408 = .ok (.lcmp, 1) := by decide +kernel
theorem dL_locks_409 : decode cL_locks 409 = .ok (.ifCond .ne 7, 3) := by decide +kernel
theorem dL_locks_412 : decode cL_locks 412 = .ok (.iconst 1, 1) := by decide +kernel
theorem dL_locks_413 : decode cL_locks 413 = .ok (.goto 4, 3) := by decide +kernel
theorem dL_locks_416 : decode cL_locks 416 = .ok (.iconst 0, 1) := by decide +kernel
theorem dL_locks_417 : decode cL_locks 417 = .ok (.ireturn, 1) := by decide +kernel
theorem dL_locks_418 : decode cL_locks 418 = .ok (.iload 21, 2) := by decide +kernel
theorem dL_locks_420 : decode cL_locks 420 = .ok (.iconst 2, 1) := by decide +kernel
theorem dL_locks_421 : decode cL_locks 421 = .ok (.if_icmp .le 84, 3) := by decide +kernel
theorem dL_locks_424 : decode cL_locks 424 = .ok (.iload 21, 2) := by decide +kernel
theorem dL_locks_426 : decode cL_locks 426 = .ok (.iconst 3, 1) := by decide +kernel
theorem dL_locks_427 : decode cL_locks 427 = .ok (.if_icmp .ne 32, 3) := by decide +kernel
theorem dL_locks_430 : decode cL_locks 430 = .ok (.iload 10, 2) := by decide +kernel
theorem dL_locks_432 : decode cL_locks 432 = .ok (.iload 4, 2) := by decide +kernel
theorem dL_locks_434 : decode cL_locks 434 = .ok (.if_icmp .eq 43, 3) := by decide +kernel
theorem dL_locks_437 : decode cL_locks 437 = .ok (.iload 10, 2) := by decide +kernel
theorem dL_locks_439 : decode cL_locks 439 = .ok (.ifCond .lt 64, 3) := by decide +kernel
theorem dL_locks_442 : decode cL_locks 442 = .ok (.iload 20, 2) := by decide +kernel
theorem dL_locks_444 : decode cL_locks 444 = .ok (.ifCond .ne 59, 3) := by decide +kernel
theorem dL_locks_447 : decode cL_locks 447 = .ok (.aload_n 0, 1) := by decide +kernel
theorem dL_locks_448 : decode cL_locks 448 = .ok (.iload 4, 2) := by decide +kernel
theorem dL_locks_450 : decode cL_locks 450 = .ok (.invokevirtual 156, 3) := by decide +kernel
theorem dL_locks_453 : decode cL_locks 453 = .ok (.ifCond .le 50, 3) := by decide +kernel
theorem dL_locks_456 : decode cL_locks 456 = .ok (.goto 21, 3) := by decide +kernel
theorem dL_locks_459 : decode cL_locks 459 = .ok (.iload 21, 2) := by decide +kernel
theorem dL_locks_461 : decode cL_locks 461 = .ok (.iconst 4, 1) := by decide +kernel
theorem dL_locks_462 : decode cL_locks 462 = .ok (.if_icmp .ne 41, 3) := by decide +kernel
theorem dL_locks_465 : decode cL_locks 465 = .ok (.iload 20, 2) := by decide +kernel
theorem dL_locks_467 : decode cL_locks 467 = .ok (.ifCond .eq 36, 3) := by decide +kernel
theorem dL_locks_470 : decode cL_locks 470 = .ok (.iload 10, 2) := by decide +kernel
theorem dL_locks_472 : decode cL_locks 472 = .ok (.iload 4, 2) := by decide +kernel
theorem dL_locks_474 : decode cL_locks 474 = .ok (.if_icmp .eq 29, 3) := by decide +kernel
theorem dL_locks_477 : decode cL_locks 477 = .ok (.aload_n 0, 1) := by decide +kernel
theorem dL_locks_478 : decode cL_locks 478 = .ok (.iconst (-1), 1) := by decide +kernel
theorem dL_locks_479 : decode cL_locks 479 = .ok (.invokestatic 124, 3) := by decide +kernel
theorem dL_locks_482 : decode cL_locks 482 = .ok (.lload 11, 2) := by decide +kernel
theorem dL_locks_484 : decode cL_locks 484 = .ok (.lcmp, 1) := by decide +kernel
theorem dL_locks_485 : decode cL_locks 485 = .ok (.ifCond .ne 18, 3) := by decide +kernel
theorem dL_locks_488 : decode cL_locks 488 = .ok (.aload_n 0, 1) := by decide +kernel
theorem dL_locks_489 : decode cL_locks 489 = .ok (.iconst (-1), 1) := by decide +kernel
theorem dL_locks_490 : decode cL_locks 490 = .ok (.invokestatic 128, 3) := by decide +kernel
theorem dL_locks_493 : decode cL_locks 493 = .ok (.lload 15, 2) := by decide +kernel
theorem dL_locks_495 : decode cL_locks 495 = .ok (.lcmp, 1) := by decide +kernel
theorem dL_locks_496 : decode cL_locks 496 = .ok (.ifCond .ne 7, 3) := by decide +kernel
theorem dL_locks_499 : decode cL_locks 499 = .ok (.iconst 1, 1) := by decide +kernel
theorem dL_locks_500 : decode cL_locks 500 = .ok (.goto 4, 3) := by decide +kernel
theorem dL_locks_503 : decode cL_locks 503 = .ok (.iconst 0, 1) := by decide +kernel
theorem dL_locks_504 : decode cL_locks 504 = .ok (.ireturn, 1) := by decide +kernel
theorem dL_locks_505 : decode cL_locks 505 = .ok (.iload 21, 2) := by decide +kernel
theorem dL_locks_507 : decode cL_locks 507 = .ok (.iconst 2, 1) := by decide +kernel
theorem dL_locks_508 : decode cL_locks 508 = .ok (.if_icmp .ne 95, 3) := by decide +kernel
theorem dL_locks_511 : decode cL_locks 511 = .ok (.aload_n 1, 1) := by decide +kernel
theorem dL_locks_512 : decode cL_locks 512 = .ok (.bipush 8, 2) := by decide +kernel
theorem dL_locks_514 : decode cL_locks 514 = .ok (.iload 4, 2) := by decide +kernel
theorem dL_locks_516 : decode cL_locks 516 = .ok (.iadd, 1) := by decide +kernel
theorem dL_locks_517 : decode cL_locks 517 = .ok (.sipush 255, 3) := by decide +kernel
theorem dL_locks_520 : decode cL_locks 520 = .ok (.iastore, 1) := by decide +kernel
theorem dL_locks_521 : decode cL_locks 521 = .ok (.iload 10, 2) := by decide +kernel
theorem dL_locks_523 : decode cL_locks 523 = .ok (.ifCond .lt 78, 3) := by decide +kernel
theorem dL_locks_526 : decode cL_locks 526 = .ok (.iload 10, 2) := by decide +kernel
theorem dL_locks_528 : decode cL_locks 528 = .ok (.iload 4, 2) := by decide +kernel
theorem dL_locks_530 : decode cL_locks 530 = .ok (.if_icmp .eq 71, 3) := by decide +kernel
theorem dL_locks_533 : decode cL_locks 533 = .ok (.iload 20, 2) := by decide +kernel
theorem dL_locks_535 : decode cL_locks 535 = .ok (.ifCond .ne 66, 3) := by decide +kernel
theorem dL_locks_538 : decode cL_locks 538 = .ok (.aload_n 0, 1) := by decide +kernel
theorem dL_locks_539 : decode cL_locks 539 = .ok (.iload 4, 2) := by decide +kernel
theorem dL_locks_541 : decode cL_locks 541 = .ok (.invokevirtual 73, 3) := by decide +kernel
theorem dL_locks_544 : decode cL_locks 544 = .ok (.iconst 2, 1) := by decide +kernel
theorem dL_locks_545 : decode cL_locks 545 = .ok (.if_icmp .ne 56, 3) := by decide +kernel
theorem dL_locks_548 : decode cL_locks 548 = .ok (.aload_n 0, 1) := by decide +kernel
theorem dL_locks_549 : decode cL_locks 549 = .ok (.aload_n 1, 1) := by decide +kernel
theorem dL_locks_550 : decode cL_locks 550 = .ok (.iload 4, 2) := by decide +kernel
theorem dL_locks_552 : decode cL_locks 552 = .ok (.iload 5, 2) := by decide +kernel
theorem dL_locks_554 : decode cL_locks 554 = .ok (.invokestatic 143, 3) := by decide +kernel
theorem dL_locks_557 : decode cL_locks 557 = .ok (.ifCond .eq 44, 3) := by decide +kernel
theorem dL_locks_560 : decode cL_locks 560 = .ok (.aload_n 0, 1) := by decide +kernel
theorem dL_locks_561 : decode cL_locks 561 = .ok (.iload 5, 2) := by decide +kernel
theorem dL_locks_563 : decode cL_locks 563 = .ok (.invokevirtual 106, 3) := by decide +kernel
theorem dL_locks_566 : decode cL_locks 566 = .ok (.iload 9, 2) := by decide +kernel
theorem dL_locks_568 : decode cL_locks 568 = .ok (.ldc 159, 2) := by decide +kernel
theorem dL_locks_570 : decode cL_locks 570 = .ok (.ior, 1) := by decide +kernel
theorem dL_locks_571 : decode cL_locks 571 = .ok (.if_icmp .ne 30, 3) := by decide +kernel
theorem dL_locks_574 : decode cL_locks 574 = .ok (.aload_n 0, 1) := by decide +kernel
theorem dL_locks_575 : decode cL_locks 575 = .ok (.iload 4, 2) := by decide +kernel
theorem dL_locks_577 : decode cL_locks 577 = .ok (.invokestatic 124, 3) := by decide +kernel
theorem dL_locks_580 : decode cL_locks 580 = .ok (.lload 13, 2) := by decide +kernel
theorem dL_locks_582 : decode cL_locks 582 = .ok (.lcmp, 1) := by decide +kernel
theorem dL_locks_583 : decode cL_locks 583 = .ok (.ifCond .ne 18, 3) := by decide +kernel
theorem dL_locks_586 : decode cL_locks 586 = .ok (.aload_n 0, 1) := by decide +kernel
theorem dL_locks_587 : decode cL_locks 587 = .ok (.iload 4, 2) := by decide +kernel
theorem dL_locks_589 : decode cL_locks 589 = .ok (.invokevirtual 91, 3) := by decide +kernel
theorem dL_locks_592 : decode cL_locks 592 = .ok (.iload 18, 2) := by decide +kernel
theorem dL_locks_594 : decode cL_locks 594 = .ok (.if_icmp .ne 7, 3) := by decide +kernel
theorem dL_locks_597 : decode cL_locks 597 = .ok (.iconst 1, 1) := by decide +kernel
theorem dL_locks_598 : decode cL_locks 598 = .ok (.goto 4, 3) := by decide +kernel
theorem dL_locks_601 : decode cL_locks 601 = .ok (.iconst 0, 1) := by decide +kernel
theorem dL_locks_602 : decode cL_locks 602 = .ok (.ireturn, 1) := by decide +kernel
theorem dL_locks_603 : decode cL_locks 603 = .ok (.iload 9, 2) := by decide +kernel
theorem dL_locks_605 : decode cL_locks 605 = .ok (.bipush 30, 2) := by decide +kernel
theorem dL_locks_607 : decode cL_locks 607 = .ok (.ishr, 1) := by decide +kernel
theorem dL_locks_608 : decode cL_locks 608 = .ok (.iconst 1, 1) := by decide +kernel
theorem dL_locks_609 : decode cL_locks 609 = .ok (.iand, 1) := by decide +kernel
theorem dL_locks_610 : decode cL_locks 610 = .ok (.istore 22, 2) := by decide +kernel
theorem dL_locks_612 : decode cL_locks 612 = .ok (.iconst 0, 1) := by decide +kernel
theorem dL_locks_613 : decode cL_locks 613 = .ok (.istore 23, 2) := by decide +kernel
theorem dL_locks_615 : decode cL_locks 615 = .ok (.iconst 0, 1) := by decide +kernel
theorem dL_locks_616 : decode cL_locks 616 = .ok (.istore 24, 2) := by decide +kernel
theorem dL_locks_618 : decode cL_locks 618 = .ok (.iload 24, 2) := by decide +kernel
theorem dL_locks_620 : decode cL_locks 620 = .ok (.aload_n 0, 1) := by decide +kernel
theorem dL_locks_621 : decode cL_locks 621 = .ok (.iload 4, 2) := by decide +kernel
theorem dL_locks_623 : decode cL_locks 623 = .ok (.invokevirtual 91, 3) := by decide +kernel
theorem dL_locks_626 : decode cL_locks 626 = .ok (.if_icmp .ge 34, 3) := by decide +kernel
theorem dL_locks_629 : decode cL_locks 629 = .ok (.iload 23, 2) := by decide +kernel
theorem dL_locks_631 : decode cL_locks 631 = .ok (.ifCond .ne 16, 3) := by decide +kernel
theorem dL_locks_634 : decode cL_locks 634 = .ok (.aload_n 0, 1) := by decide +kernel
theorem dL_locks_635 : decode cL_locks 635 = .ok (.iload 4, 2) := by decide +kernel
theorem dL_locks_637 : decode cL_locks 637 = .ok (.iload 24, 2) := by decide +kernel
theorem dL_locks_639 : decode cL_locks 639 = .ok (.invokevirtual 94, 3) := by decide +kernel
theorem dL_locks_642 : decode cL_locks 642 = .ok (.iload 5, 2) := by decide +kernel
theorem dL_locks_644 : decode cL_locks 644 = .ok (.if_icmp .ne 7, 3) := by decide +kernel
theorem dL_locks_647 : decode cL_locks 647 = .ok (.iconst 1, 1) := by decide +kernel
theorem dL_locks_648 : decode cL_locks 648 = .ok (.goto 4, 3) := by decide +kernel
theorem dL_locks_651 : decode cL_locks 651 = .ok (.iconst 0, 1) := by decide +kernel
theorem dL_locks_652 : decode cL_locks 652 = .ok (.istore 23, 2) := by decide +kernel
theorem dL_locks_654 : decode cL_locks 654 = .ok (.iinc 24 1, 3) := by decide +kernel
theorem dL_locks_657 : decode cL_locks 657 = .ok (.goto (-39), 3) := by decide +kernel
theorem dL_locks_660 : decode cL_locks 660 = .ok (.iload 21, 2) := by decide +kernel
theorem dL_locks_662 : decode cL_locks 662 = .ok (.iload 22, 2) := by decide +kernel
theorem dL_locks_664 : decode cL_locks 664 = .ok (.if_icmp .ne 118, 3) := by decide +kernel
theorem dL_locks_667 : decode cL_locks 667 = .ok (.iload 10, 2) := by decide +kernel
theorem dL_locks_669 : decode cL_locks 669 = .ok (.iconst (-1), 1) := by decide +kernel
theorem dL_locks_670 : decode cL_locks 670 = .ok (.if_icmp .ne 112, 3) := by decide +kernel
theorem dL_locks_673 : decode cL_locks 673 = .ok (.iload 23, 2) := by decide +kernel
theorem dL_locks_675 : decode cL_locks 675 = .ok (.ifCond .eq 107, 3) := by decide +kernel
theorem dL_locks_678 : decode cL_locks 678 = .ok (.aload_n 0, 1) := by decide +kernel
theorem dL_locks_679 : decode cL_locks 679 = .ok (.iload 4, 2) := by decide +kernel
theorem dL_locks_681 : decode cL_locks 681 = .ok (.invokevirtual 91, 3) := by decide +kernel
theorem dL_locks_684 : decode cL_locks 684 = .ok (.iload 18, 2) := by decide +kernel
theorem dL_locks_686 : decode cL_locks 686 = .ok (.isub, 1) := by decide +kernel
theorem dL_locks_687 : decode cL_locks 687 = .ok (.iconst 2, 1) := by decide +kernel
theorem dL_locks_688 : decode cL_locks 688 = .ok (.if_icmp .ge 94, 3) := by decide +kernel
theorem dL_locks_691 : decode cL_locks 691 = .ok (.aload_n 0, 1) := by decide +kernel
theorem dL_locks_692 : decode cL_locks 692 = .ok (.iload 4, 2) := by decide +kernel
theorem dL_locks_694 : decode cL_locks 694 = .ok (.invokevirtual 91, 3) := by decide +kernel
theorem dL_locks_697 : decode cL_locks 697 = .ok (.iload 18, 2) := by decide +kernel
theorem dL_locks_699 : decode cL_locks 699 = .ok (.if_icmp .lt 83, 3) := by decide +kernel
theorem dL_locks_702 : decode cL_locks 702 = .ok (.aload_n 0, 1) := by decide +kernel
theorem dL_locks_703 : decode cL_locks 703 = .ok (.iload 4, 2) := by decide +kernel
theorem dL_locks_705 : decode cL_locks 705 = .ok (.invokevirtual 91, 3) := by decide +kernel
theorem dL_locks_708 : decode cL_locks 708 = .ok (.iload 18, 2) := by decide +kernel
theorem dL_locks_710 : decode cL_locks 710 = .ok (.if_icmp .eq 16, 3) := by decide +kernel
theorem dL_locks_713 : decode cL_locks 713 = .ok (.aload_n 0, 1) := by decide +kernel
theorem dL_locks_714 : decode cL_locks 714 = .ok (.iload 4, 2) := by decide +kernel
theorem dL_locks_716 : decode cL_locks 716 = .ok (.iload 18, 2) := by decide +kernel
theorem dL_locks_718 : decode cL_locks 718 = .ok (.invokevirtual 94, 3) := by decide +kernel
theorem dL_locks_721 : decode cL_locks 721 = .ok (.iload 5, 2) := by decide +kernel
theorem dL_locks_723 : decode cL_locks 723 = .ok (.if_icmp .ne 59, 3) := by decide +kernel
theorem dL_locks_726 : decode cL_locks 726 = .ok (.aload_n 0, 1) := by decide +kernel
theorem dL_locks_727 : decode cL_locks 727 = .ok (.iload 5, 2) := by decide +kernel
theorem dL_locks_729 : decode cL_locks 729 = .ok (.invokevirtual 106, 3) := by decide +kernel
theorem dL_locks_732 : decode cL_locks 732 = .ok (.iload 4, 2) := by decide +kernel
theorem dL_locks_734 : decode cL_locks 734 = .ok (.iconst 1, 1) := by decide +kernel
theorem dL_locks_735 : decode cL_locks 735 = .ok (.iadd, 1) := by decide +kernel
theorem dL_locks_736 : decode cL_locks 736 = .ok (.iload 22, 2) := by decide +kernel
theorem dL_locks_738 : decode cL_locks 738 = .ok (.bipush 30, 2) := by decide +kernel
theorem dL_locks_740 : decode cL_locks 740 = .ok (.ishl, 1) := by decide +kernel
theorem dL_locks_741 : decode cL_locks 741 = .ok (.iadd, 1) := by decide +kernel
theorem dL_locks_742 : decode cL_locks 742 = .ok (.iload 19, 2) := by decide +kernel
theorem dL_locks_744 : decode cL_locks 744 = .ok (.ifCond .eq 8, 3) := by decide +kernel
theorem dL_locks_747 : decode cL_locks 747 = .ok (.ldc 159, 2) := by decide +kernel
theorem dL_locks_749 : decode cL_locks 749 = .ok (.goto 4, 3) := by decide +kernel
theorem dL_locks_752 : decode cL_locks 752 = .ok (.iconst 0, 1) := by decide +kernel
theorem dL_locks_753 : decode cL_locks 753 = .ok (.ior, 1) := by decide +kernel
theorem dL_locks_754 : decode cL_locks 754 = .ok (.if_icmp .ne 28, 3) := by decide +kernel
theorem dL_locks_757 : decode cL_locks 757 = .ok (.aload_n 0, 1) := by decide +kernel
theorem dL_locks_758 : decode cL_locks 758 = .ok (.iload 4, 2) := by decide +kernel
theorem dL_locks_760 : decode cL_locks 760 = .ok (.invokevirtual 73, 3) := by decide +kernel
theorem dL_locks_763 : decode cL_locks 763 = .ok (.ifCond .ne 19, 3) := by decide +kernel
theorem dL_locks_766 : decode cL_locks 766 = .ok (.aload_n 0, 1) := by decide +kernel
theorem dL_locks_767 : decode cL_locks 767 = .ok (.iload 4, 2) := by decide +kernel
theorem dL_locks_769 : decode cL_locks 769 = .ok (.invokestatic 124, 3) := by decide +kernel
theorem dL_locks_772 : decode cL_locks 772 = .ok (.lload 13, 2) := by decide +kernel
theorem dL_locks_774 : decode cL_locks 774 = .ok (.lcmp, 1) := by decide +kernel
theorem dL_locks_775 : decode cL_locks 775 = .ok (.ifCond .ne 7, 3) := by decide +kernel
theorem dL_locks_778 : decode cL_locks 778 = .ok (.iconst 1, 1) := by decide +kernel
theorem dL_locks_779 : decode cL_locks 779 = .ok (.goto 4, 3) := by decide +kernel
theorem dL_locks_782 : decode cL_locks 782 = .ok (.iconst 0, 1) := by decide +kernel
theorem dL_locks_783 : decode cL_locks 783 = .ok (.ireturn, 1) := by decide +kernel
