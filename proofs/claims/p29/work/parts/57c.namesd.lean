set_option maxRecDepth 20000 in
theorem ggL_plain_L_some : GoodIn wsL_plain wsL_some := goodIn_r _ [6] (by decide +kernel) (by decide +kernel)
set_option maxRecDepth 20000 in
theorem gL_plain_L_some : GoodIn wsL_plain (va_wsS RL 121 yL_some wsL_some) := goodIn_app (goodIn_of _ (by decide +kernel)) ggL_plain_L_some
set_option maxRecDepth 20000 in
theorem ggL_plain_L_threads : GoodIn wsL_plain wsL_threads := goodIn_ca (goodIn_r _ [9, 10, 11, 12, 13, 14, 15, 16, 17, 18, 19, 20, 21, 22, 23, 24, 25, 26, 27, 28, 29, 30, 31, 32, 33, 34, 35, 36, 37, 38, 39, 40, 41, 42, 43, 44, 45, 46, 47, 48, 49, 50, 51, 52, 53, 54, 55, 56, 57, 58, 59, 60, 61, 62, 63, 64, 65, 66, 67, 68, 69, 70, 71, 72, 73, 74, 75, 76, 77, 78, 79, 80, 81, 82, 83, 84, 85, 86, 87, 88, 89, 253, 254, 255, 256, 257, 258, 259, 260, 261, 262, 263, 264, 265, 266, 267, 268, 269, 270, 271] (by decide +kernel) (by decide +kernel)) (goodIn_sub (fun _ h => List.mem_cons_of_mem _ (List.mem_append_left _ (List.mem_append_left _ (List.mem_append_right _ h)))) (by decide +kernel))
set_option maxRecDepth 20000 in
theorem gL_plain_L_threads : GoodIn wsL_plain (va_wsS RL 124 yL_threads wsL_threads) := goodIn_app (goodIn_of _ (by decide +kernel)) ggL_plain_L_threads
set_option maxRecDepth 20000 in
theorem ggL_plain_L_words : GoodIn wsL_plain wsL_words := goodIn_ca (goodIn_r _ [92, 93, 94, 95, 96, 19, 97, 98, 99, 100, 101, 31, 32, 102, 103, 104, 253, 254, 255, 256, 257, 258] (by decide +kernel) (by decide +kernel)) (goodIn_sub (fun _ h => List.mem_cons_of_mem _ (List.mem_append_left _ (List.mem_append_left _ (List.mem_append_right _ h)))) (by decide +kernel))
set_option maxRecDepth 20000 in
theorem gL_plain_L_words : GoodIn wsL_plain (va_wsS RL 128 yL_words wsL_words) := goodIn_app (goodIn_of _ (by decide +kernel)) ggL_plain_L_words
set_option maxRecDepth 20000 in
theorem ggL_plain_X2_word : GoodIn wsL_plain wsX2_word := goodIn_ca (goodIn_r _ [97, 98, 99, 100, 19, 101, 31, 32, 102, 103, 104, 253, 254, 255, 256, 257, 258] (by decide +kernel) (by decide +kernel)) (goodIn_sub (fun _ h => List.mem_cons_of_mem _ (List.mem_append_left _ (List.mem_append_left _ (List.mem_append_right _ h)))) (by decide +kernel))
set_option maxRecDepth 20000 in
theorem gL_plain_X2_word : GoodIn wsL_plain (wsV RL 106 RX2 yX2_word wsX2_word) := goodIn_app (goodIn_of _ (by decide +kernel)) ggL_plain_X2_word
set_option maxRecDepth 20000 in
theorem ggL_plain_X2_stateOf : GoodIn wsL_plain wsX2_stateOf := goodIn_ca (goodIn_r _ [25, 26, 27, 28, 29, 19, 30, 31, 32, 33, 259, 260, 261, 262, 263, 264, 265, 266, 267, 268, 269, 253, 254, 255, 256, 257, 258] (by decide +kernel) (by decide +kernel)) (goodIn_sub (fun _ h => List.mem_cons_of_mem _ (List.mem_append_left _ (List.mem_append_left _ (List.mem_append_right _ h)))) (by decide +kernel))
set_option maxRecDepth 20000 in
theorem gL_plain_X2_stateOf : GoodIn wsL_plain (wsV RL 73 RX2 yX2_stateOf wsX2_stateOf) := goodIn_app (goodIn_of _ (by decide +kernel)) ggL_plain_X2_stateOf
set_option maxRecDepth 20000 in
theorem ggL_plain_L_acts : GoodIn wsL_plain wsL_acts := goodIn_ca (goodIn_ca (goodIn_ca (goodIn_r _ [107, 108, 109, 110, 1, 111, 2, 112, 113, 114, 19, 115, 98, 116, 26, 117, 27, 28, 29, 30, 31, 32, 33, 99, 100, 101, 102, 103, 104, 118, 119, 120, 121, 122, 123, 124, 125, 126, 127, 128, 129, 130, 131, 70, 53, 132, 133, 134, 135, 136, 137, 138, 139, 38, 140, 84, 85, 86, 74, 87, 88, 89, 141, 142, 143, 62, 144, 64, 65, 145, 146, 147, 148, 149, 150, 151, 152, 153, 154, 155, 156, 157, 158, 159, 160, 21, 161, 162, 163, 164, 165, 166, 167, 168, 169, 170, 171, 172, 173, 174, 175, 176, 177, 178, 179, 180, 181, 182, 183, 184, 185, 43, 186, 48, 187, 188, 189, 190, 191, 192, 193, 194, 195, 196, 197, 198, 199, 200, 201, 202, 203, 54, 204, 205, 206, 71, 72, 73, 75, 76, 59, 60, 61, 63, 207, 208, 209, 210, 211, 212, 213, 214, 215, 216, 217, 218, 219, 220, 221, 222, 223, 224, 225, 226, 227, 228, 229, 230, 231, 232, 233, 234, 235, 5, 236, 237, 238, 239, 240, 241, 242, 243, 244, 253, 254, 255, 256, 257, 258, 259, 260, 261, 262, 263, 264, 265, 266, 267, 268, 269, 270, 271] (by decide +kernel) (by decide +kernel)) (goodIn_sub (fun _ h => List.mem_cons_of_mem _ (List.mem_append_left _ (List.mem_append_left _ (List.mem_append_right _ h)))) (by decide +kernel))) (goodIn_sub (fun _ h => List.mem_cons_of_mem _ (List.mem_append_left _ (List.mem_append_right _ h))) (by decide +kernel))) (goodIn_sub (fun _ h => List.mem_cons_of_mem _ (List.mem_append_right _ h)) (by decide +kernel))
set_option maxRecDepth 20000 in
theorem gL_plain_L_acts : GoodIn wsL_plain (va_wsS RL 131 yL_acts wsL_acts) := goodIn_app (goodIn_of _ (by decide +kernel)) ggL_plain_L_acts
set_option maxRecDepth 20000 in
theorem ggL_plain_X2_store : GoodIn wsL_plain wsX2_store := goodIn_ca (goodIn_ca (goodIn_r _ [248, 98, 27, 28, 29, 19, 30, 31, 32, 33, 99, 100, 101, 102, 103, 104, 123, 124, 125, 126, 127, 26, 253, 254, 255, 256, 257, 258, 259, 260, 261, 262, 263, 264, 265, 266, 267, 268, 269] (by decide +kernel) (by decide +kernel)) (goodIn_sub (fun _ h => List.mem_cons_of_mem _ (List.mem_append_left _ (List.mem_append_left _ (List.mem_append_right _ h)))) (by decide +kernel))) (goodIn_sub (fun _ h => List.mem_cons_of_mem _ (List.mem_append_right _ h)) (by decide +kernel))
set_option maxRecDepth 20000 in
theorem gL_plain_X2_store : GoodIn wsL_plain (wsV RL 135 RX2 yX2_store wsX2_store) := goodIn_app (goodIn_of _ (by decide +kernel)) ggL_plain_X2_store
set_option maxRecDepth 20000 in
theorem ggL_plain_X2_fetchAdd : GoodIn wsL_plain wsX2_fetchAdd := goodIn_ca (goodIn_ca (goodIn_r _ [252, 98, 27, 28, 29, 19, 30, 31, 32, 33, 99, 100, 101, 102, 103, 104, 123, 124, 125, 126, 127, 26, 253, 254, 255, 256, 257, 258, 259, 260, 261, 262, 263, 264, 265, 266, 267, 268, 269] (by decide +kernel) (by decide +kernel)) (goodIn_sub (fun _ h => List.mem_cons_of_mem _ (List.mem_append_left _ (List.mem_append_left _ (List.mem_append_right _ h)))) (by decide +kernel))) (goodIn_sub (fun _ h => List.mem_cons_of_mem _ (List.mem_append_right _ h)) (by decide +kernel))
set_option maxRecDepth 20000 in
theorem gL_plain_X2_fetchAdd : GoodIn wsL_plain (wsV RL 138 RX2 yX2_fetchAdd wsX2_fetchAdd) := goodIn_app (goodIn_of _ (by decide +kernel)) ggL_plain_X2_fetchAdd
set_option maxRecDepth 20000 in
theorem ggL_plain_X2_compareAndSet : GoodIn wsL_plain wsX2_compareAndSet := goodIn_ca (goodIn_ca (goodIn_r _ [233, 98, 27, 28, 29, 19, 30, 31, 32, 33, 99, 100, 101, 102, 103, 104, 123, 124, 125, 126, 127, 26, 253, 254, 255, 256, 257, 258, 259, 260, 261, 262, 263, 264, 265, 266, 267, 268, 269] (by decide +kernel) (by decide +kernel)) (goodIn_sub (fun _ h => List.mem_cons_of_mem _ (List.mem_append_left _ (List.mem_append_left _ (List.mem_append_right _ h)))) (by decide +kernel))) (goodIn_sub (fun _ h => List.mem_cons_of_mem _ (List.mem_append_right _ h)) (by decide +kernel))
set_option maxRecDepth 20000 in
theorem gL_plain_X2_compareAndSet : GoodIn wsL_plain (wsV RL 50 RX2 yX2_compareAndSet wsX2_compareAndSet) := goodIn_app (goodIn_of _ (by decide +kernel)) ggL_plain_X2_compareAndSet
theorem dL_plain_0 : decode cL_plain 0 = .ok (.iload_n 1, 1) := by decide +kernel
theorem dL_plain_1 : decode cL_plain 1 = .ok (.iconst 3, 1) := by decide +kernel
theorem dL_plain_2 : decode cL_plain 2 = .ok (.invokestatic 121, 3) := by decide +kernel
theorem dL_plain_5 : decode cL_plain 5 = .ok (.istore_n 3, 1) := by decide +kernel
theorem dL_plain_6 : decode cL_plain 6 = .ok (.iload_n 2, 1) := by decide +kernel
theorem dL_plain_7 : decode cL_plain 7 = .ok (.ifCond .eq 16, 3) := by decide +kernel
theorem dL_plain_10 : decode cL_plain 10 = .ok (.iload_n 1, 1) := by decide +kernel
theorem dL_plain_11 : decode cL_plain 11 = .ok (.iconst 2, 1) := by decide +kernel
theorem dL_plain_12 : decode cL_plain 12 = .ok (.ishr, 1) := by decide +kernel
theorem dL_plain_13 : decode cL_plain 13 = .ok (.bipush 10, 2) := by decide +kernel
theorem dL_plain_15 : decode cL_plain 15 = .ok (.invokestatic 121, 3) := by decide +kernel
theorem dL_plain_18 : decode cL_plain 18 = .ok (.iconst 1, 1) := by decide +kernel
theorem dL_plain_19 : decode cL_plain 19 = .ok (.isub, 1) := by decide +kernel
theorem dL_plain_20 : decode cL_plain 20 = .ok (.goto 11, 3) := by decide +kernel
theorem dL_plain_23 : decode cL_plain 23 = .ok (.iload_n 1, 1) := by decide +kernel
theorem dL_plain_24 : decode cL_plain 24 = .ok (.iconst 2, 1) := by decide +kernel
theorem dL_plain_25 : decode cL_plain 25 = .ok (.ishr, 1) := by decide +kernel
theorem dL_plain_26 : decode cL_plain 26 = .ok (.bipush 8, 2) := by decide +kernel
theorem dL_plain_28 : decode cL_plain 28 = .ok (.invokestatic 121, 3) := by decide +kernel
theorem dL_plain_31 : decode cL_plain 31 = .ok (.istore 4, 2) := by decide +kernel
theorem dL_plain_33 : decode cL_plain 33 = .ok (.iload_n 2, 1) := by decide +kernel
theorem dL_plain_34 : decode cL_plain 34 = .ok (.ifCond .eq 17, 3) := by decide +kernel
theorem dL_plain_37 : decode cL_plain 37 = .ok (.iload_n 1, 1) := by decide +kernel
theorem dL_plain_38 : decode cL_plain 38 = .ok (.bipush 6, 2) := by decide +kernel
theorem dL_plain_40 : decode cL_plain 40 = .ok (.ishr, 1) := by decide +kernel
theorem dL_plain_41 : decode cL_plain 41 = .ok (.bipush 18, 2) := by decide +kernel
theorem dL_plain_43 : decode cL_plain 43 = .ok (.invokestatic 121, 3) := by decide +kernel
theorem dL_plain_46 : decode cL_plain 46 = .ok (.iconst 1, 1) := by decide +kernel
theorem dL_plain_47 : decode cL_plain 47 = .ok (.isub, 1) := by decide +kernel
theorem dL_plain_48 : decode cL_plain 48 = .ok (.goto 11, 3) := by decide +kernel
theorem dL_plain_51 : decode cL_plain 51 = .ok (.iload_n 1, 1) := by decide +kernel
theorem dL_plain_52 : decode cL_plain 52 = .ok (.bipush 6, 2) := by decide +kernel
theorem dL_plain_54 : decode cL_plain 54 = .ok (.ishr, 1) := by decide +kernel
theorem dL_plain_55 : decode cL_plain 55 = .ok (.iconst 4, 1) := by decide +kernel
theorem dL_plain_56 : decode cL_plain 56 = .ok (.invokestatic 121, 3) := by decide +kernel
theorem dL_plain_59 : decode cL_plain 59 = .ok (.istore 5, 2) := by decide +kernel
theorem dL_plain_61 : decode cL_plain 61 = .ok (.iload_n 1, 1) := by decide +kernel
theorem dL_plain_62 : decode cL_plain 62 = .ok (.bipush 9, 2) := by decide +kernel
theorem dL_plain_64 : decode cL_plain 64 = .ok (.ishr, 1) := by decide +kernel
theorem dL_plain_65 : decode cL_plain 65 = .ok (.iconst 3, 1) := by decide +kernel
theorem dL_plain_66 : decode cL_plain 66 = .ok (.invokestatic 121, 3) := by decide +kernel
theorem dL_plain_69 : decode cL_plain 69 = .ok (.ifCond .ne 7, 3) := by decide +kernel
theorem dL_plain_72 : decode cL_plain 72 = .ok (.iload_n 1, 1) := by decide +kernel
theorem dL_plain_73 : decode cL_plain 73 = .ok (.goto 12, 3) := by decide +kernel
theorem dL_plain_76 : decode cL_plain 76 = .ok (.iload_n 1, 1) := by decide +kernel
theorem dL_plain_77 : decode cL_plain 77 = .ok (.bipush 11, 2) := by decide +kernel
theorem dL_plain_79 : decode cL_plain 79 = .ok (.ishr, 1) := by decide +kernel
theorem dL_plain_80 : decode cL_plain 80 = .ok (.bipush 10, 2) := by decide +kernel
theorem dL_plain_82 : decode cL_plain 82 = .ok (.invokestatic 121, 3) := by decide +kernel
theorem dL_plain_85 : decode cL_plain 85 = .ok (.istore 6, 2) := by decide +kernel
theorem dL_plain_87 : decode cL_plain 87 = .ok (.iload 4, 2) := by decide +kernel
theorem dL_plain_89 : decode cL_plain 89 = .ok (.ifCond .lt 22, 3) := by decide +kernel
theorem dL_plain_92 : decode cL_plain 92 = .ok (.iload 4, 2) := by decide +kernel
theorem dL_plain_94 : decode cL_plain 94 = .ok (.bipush 7, 2) := by decide +kernel
theorem dL_plain_96 : decode cL_plain 96 = .ok (.if_icmp .gt 15, 3) := by decide +kernel
theorem dL_plain_99 : decode cL_plain 99 = .ok (.iload 5, 2) := by decide +kernel
theorem dL_plain_101 : decode cL_plain 101 = .ok (.ifCond .lt 10, 3) := by decide +kernel
theorem dL_plain_104 : decode cL_plain 104 = .ok (.iload 5, 2) := by decide +kernel
theorem dL_plain_106 : decode cL_plain 106 = .ok (.bipush 15, 2) := by decide +kernel
theorem dL_plain_108 : decode cL_plain 108 = .ok (.if_icmp .le 7, 3) := by decide +kernel
theorem dL_plain_111 : decode cL_plain 111 = .ok (.iconst 1, 1) := by decide +kernel
theorem dL_plain_112 : decode cL_plain 112 = .ok (.goto 4, 3) := by decide +kernel
theorem dL_plain_115 : decode cL_plain 115 = .ok (.iconst 0, 1) := by decide +kernel
theorem dL_plain_116 : decode cL_plain 116 = .ok (.istore 7, 2) := by decide +kernel
theorem dL_plain_118 : decode cL_plain 118 = .ok (.aload_n 0, 1) := by decide +kernel
theorem dL_plain_119 : decode cL_plain 119 = .ok (.iconst (-1), 1) := by decide +kernel
theorem dL_plain_120 : decode cL_plain 120 = .ok (.invokestatic 124, 3) := by decide +kernel
theorem dL_plain_123 : decode cL_plain 123 = .ok (.lstore 8, 2) := by decide +kernel
theorem dL_plain_125 : decode cL_plain 125 = .ok (.aload_n 0, 1) := by decide +kernel
theorem dL_plain_126 : decode cL_plain 126 = .ok (.iload 7, 2) := by decide +kernel
theorem dL_plain_128 : decode cL_plain 128 = .ok (.ifCond .eq 7, 3) := by decide +kernel
theorem dL_plain_131 : decode cL_plain 131 = .ok (.iconst (-1), 1) := by decide +kernel
theorem dL_plain_132 : decode cL_plain 132 = .ok (.goto 5, 3) := by decide +kernel
theorem dL_plain_135 : decode cL_plain 135 = .ok (.iload 5, 2) := by decide +kernel
theorem dL_plain_137 : decode cL_plain 137 = .ok (.invokestatic 128, 3) := by decide +kernel
theorem dL_plain_140 : decode cL_plain 140 = .ok (.lstore 10, 2) := by decide +kernel
theorem dL_plain_142 : decode cL_plain 142 = .ok (.iload 7, 2) := by decide +kernel
theorem dL_plain_144 : decode cL_plain 144 = .ok (.ifCond .eq 7, 3) := by decide +kernel
theorem dL_plain_147 : decode cL_plain 147 = .ok (.iconst 0, 1) := by decide +kernel
theorem dL_plain_148 : decode cL_plain 148 = .ok (.goto 9, 3) := by decide +kernel
theorem dL_plain_151 : decode cL_plain 151 = .ok (.aload_n 0, 1) := by decide +kernel
theorem dL_plain_152 : decode cL_plain 152 = .ok (.iload 5, 2) := by decide +kernel
theorem dL_plain_154 : decode cL_plain 154 = .ok (.invokevirtual 106, 3) := by decide +kernel
theorem dL_plain_157 : decode cL_plain 157 = .ok (.istore 12, 2) := by decide +kernel
theorem dL_plain_159 : decode cL_plain 159 = .ok (.iload 7, 2) := by decide +kernel
theorem dL_plain_161 : decode cL_plain 161 = .ok (.ifCond .ne 12, 3) := by decide +kernel
theorem dL_plain_164 : decode cL_plain 164 = .ok (.aload_n 0, 1) := by decide +kernel
theorem dL_plain_165 : decode cL_plain 165 = .ok (.iload 4, 2) := by decide +kernel
theorem dL_plain_167 : decode cL_plain 167 = .ok (.invokevirtual 73, 3) := by decide +kernel
theorem dL_plain_170 : decode cL_plain 170 = .ok (.ifCond .eq 86, 3) := by decide +kernel
theorem dL_plain_173 : decode cL_plain 173 = .ok (.aload_n 0, 1) := by decide +kernel
theorem dL_plain_174 : decode cL_plain 174 = .ok (.bipush 6, 2) := by decide +kernel
theorem dL_plain_176 : decode cL_plain 176 = .ok (.iload 4, 2) := by decide +kernel
theorem dL_plain_178 : decode cL_plain 178 = .ok (.iload 5, 2) := by decide +kernel
theorem dL_plain_180 : decode cL_plain 180 = .ok (.iload 12, 2) := by decide +kernel
theorem dL_plain_182 : decode cL_plain 182 = .ok (.iload 6, 2) := by decide +kernel
theorem dL_plain_184 : decode cL_plain 184 = .ok (.invokestatic 131, 3) := by decide +kernel
theorem dL_plain_187 : decode cL_plain 187 = .ok (.iload 7, 2) := by decide +kernel
theorem dL_plain_189 : decode cL_plain 189 = .ok (.ifCond .eq 8, 3) := by decide +kernel
theorem dL_plain_192 : decode cL_plain 192 = .ok (.ldc 17, 2) := by decide +kernel
theorem dL_plain_194 : decode cL_plain 194 = .ok (.goto 5, 3) := by decide +kernel
theorem dL_plain_197 : decode cL_plain 197 = .ok (.ldc 23, 2) := by decide +kernel
theorem dL_plain_199 : decode cL_plain 199 = .ok (.if_icmp .ne 55, 3) := by decide +kernel
theorem dL_plain_202 : decode cL_plain 202 = .ok (.aload_n 0, 1) := by decide +kernel
theorem dL_plain_203 : decode cL_plain 203 = .ok (.iconst (-1), 1) := by decide +kernel
theorem dL_plain_204 : decode cL_plain 204 = .ok (.invokestatic 124, 3) := by decide +kernel
theorem dL_plain_207 : decode cL_plain 207 = .ok (.lload 8, 2) := by decide +kernel
theorem dL_plain_209 : decode cL_plain 209 = .ok (.lcmp, 1) := by decide +kernel
theorem dL_plain_210 : decode cL_plain 210 = .ok (.ifCond .ne 44, 3) := by decide +kernel
theorem dL_plain_213 : decode cL_plain 213 = .ok (.aload_n 0, 1) := by decide +kernel
theorem dL_plain_214 : decode cL_plain 214 = .ok (.iload 7, 2) := by decide +kernel
theorem dL_plain_216 : decode cL_plain 216 = .ok (.ifCond .eq 7, 3) := by decide +kernel
theorem dL_plain_219 : decode cL_plain 219 = .ok (.iconst (-1), 1) := by decide +kernel
theorem dL_plain_220 : decode cL_plain 220 = .ok (.goto 5, 3) := by decide +kernel
theorem dL_plain_223 : decode cL_plain 223 = .ok (.iload 5, 2) := by decide +kernel
theorem dL_plain_225 : decode cL_plain 225 = .ok (.invokestatic 128, 3) := by decide +kernel
theorem dL_plain_228 : decode cL_plain 228 = .ok (.lload 10, 2) := by decide +kernel
theorem dL_plain_230 : decode cL_plain 230 = .ok (.lcmp, 1) := by decide +kernel
theorem dL_plain_231 : decode cL_plain 231 = .ok (.ifCond .ne 23, 3) := by decide +kernel
theorem dL_plain_234 : decode cL_plain 234 = .ok (.iload 7, 2) := by decide +kernel
theorem dL_plain_236 : decode cL_plain 236 = .ok (.ifCond .ne 14, 3) := by decide +kernel
theorem dL_plain_239 : decode cL_plain 239 = .ok (.aload_n 0, 1) := by decide +kernel
theorem dL_plain_240 : decode cL_plain 240 = .ok (.iload 5, 2) := by decide +kernel
theorem dL_plain_242 : decode cL_plain 242 = .ok (.invokevirtual 106, 3) := by decide +kernel
theorem dL_plain_245 : decode cL_plain 245 = .ok (.iload 12, 2) := by decide +kernel
theorem dL_plain_247 : decode cL_plain 247 = .ok (.if_icmp .ne 7, 3) := by decide +kernel
theorem dL_plain_250 : decode cL_plain 250 = .ok (.iconst 1, 1) := by decide +kernel
theorem dL_plain_251 : decode cL_plain 251 = .ok (.goto 4, 3) := by decide +kernel
theorem dL_plain_254 : decode cL_plain 254 = .ok (.iconst 0, 1) := by decide +kernel
theorem dL_plain_255 : decode cL_plain 255 = .ok (.ireturn, 1) := by decide +kernel
theorem dL_plain_256 : decode cL_plain 256 = .ok (.iload_n 3, 1) := by decide +kernel
theorem dL_plain_257 : decode cL_plain 257 = .ok (.ifCond .ne 37, 3) := by decide +kernel
theorem dL_plain_260 : decode cL_plain 260 = .ok (.aload_n 0, 1) := by decide +kernel
theorem dL_plain_261 : decode cL_plain 261 = .ok (.iload 4, 2) := by decide +kernel
theorem dL_plain_263 : decode cL_plain 263 = .ok (.iload 5, 2) := by decide +kernel
theorem dL_plain_265 : decode cL_plain 265 = .ok (.iload 6, 2) := by decide +kernel
theorem dL_plain_267 : decode cL_plain 267 = .ok (.invokevirtual 135, 3) := by decide +kernel
theorem dL_plain_270 : decode cL_plain 270 = .ok (.iload 12, 2) := by decide +kernel
theorem dL_plain_272 : decode cL_plain 272 = .ok (.if_icmp .ne 18, 3) := by decide +kernel
theorem dL_plain_275 : decode cL_plain 275 = .ok (.aload_n 0, 1) := by decide +kernel
theorem dL_plain_276 : decode cL_plain 276 = .ok (.iload 5, 2) := by decide +kernel
theorem dL_plain_278 : decode cL_plain 278 = .ok (.invokevirtual 106, 3) := by decide +kernel
theorem dL_plain_281 : decode cL_plain 281 = .ok (.iload 6, 2) := by decide +kernel
theorem dL_plain_283 : decode cL_plain 283 = .ok (.if_icmp .ne 7, 3) := by decide +kernel
theorem dL_plain_286 : decode cL_plain 286 = .ok (.iconst 1, 1) := by decide +kernel
theorem dL_plain_287 : decode cL_plain 287 = .ok (.goto 112, 3) := by decide +kernel
theorem dL_plain_290 : decode cL_plain 290 = .ok (.iconst 0, 1) := by decide +kernel
theorem dL_plain_291 : decode cL_plain 291 = .ok (.goto 108, 3) := by decide +kernel
theorem dL_plain_294 : decode cL_plain 294 = .ok (.iload_n 3, 1) := by decide +kernel
theorem dL_plain_295 : decode cL_plain 295 = .ok (.iconst 1, 1) := by decide +kernel
theorem dL_plain_296 : decode cL_plain 296 = .ok (.if_icmp .ne 40, 3) := by decide +kernel
theorem dL_plain_299 : decode cL_plain 299 = .ok (.aload_n 0, 1) := by decide +kernel
theorem dL_plain_300 : decode cL_plain 300 = .ok (.iload 4, 2) := by decide +kernel
theorem dL_plain_302 : decode cL_plain 302 = .ok (.iload 5, 2) := by decide +kernel
theorem dL_plain_304 : decode cL_plain 304 = .ok (.iload 6, 2) := by decide +kernel
theorem dL_plain_306 : decode cL_plain 306 = .ok (.invokevirtual 138, 3) := by decide +kernel
theorem dL_plain_309 : decode cL_plain 309 = .ok (.iload 12, 2) := by decide +kernel
theorem dL_plain_311 : decode cL_plain 311 = .ok (.if_icmp .ne 21, 3) := by decide +kernel
theorem dL_plain_314 : decode cL_plain 314 = .ok (.aload_n 0, 1) := by decide +kernel
theorem dL_plain_315 : decode cL_plain 315 = .ok (.iload 5, 2) := by decide +kernel
theorem dL_plain_317 : decode cL_plain 317 = .ok (.invokevirtual 106, 3) := by decide +kernel
theorem dL_plain_320 : decode cL_plain 320 = .ok (.iload 12, 2) := by decide +kernel
theorem dL_plain_322 : decode cL_plain 322 = .ok (.iload 6, 2) := by decide +kernel
theorem dL_plain_324 : decode cL_plain 324 = .ok (.iadd, 1) := by decide +kernel
theorem dL_plain_325 : decode cL_plain 325 = .ok (.if_icmp .ne 7, 3) := by decide +kernel
theorem dL_plain_328 : decode cL_plain 328 = .ok (.iconst 1, 1) := by decide +kernel
theorem dL_plain_329 : decode cL_plain 329 = .ok (.goto 70, 3) := by decide +kernel
theorem dL_plain_332 : decode cL_plain 332 = .ok (.iconst 0, 1) := by decide +kernel
theorem dL_plain_333 : decode cL_plain 333 = .ok (.goto 66, 3) := by decide +kernel
theorem dL_plain_336 : decode cL_plain 336 = .ok (.aload_n 0, 1) := by decide +kernel
theorem dL_plain_337 : decode cL_plain 337 = .ok (.iload 4, 2) := by decide +kernel
theorem dL_plain_339 : decode cL_plain 339 = .ok (.iload 5, 2) := by decide +kernel
theorem dL_plain_341 : decode cL_plain 341 = .ok (.iload 12, 2) := by decide +kernel
theorem dL_plain_343 : decode cL_plain 343 = .ok (.iload 6, 2) := by decide +kernel
theorem dL_plain_345 : decode cL_plain 345 = .ok (.invokevirtual 50, 3) := by decide +kernel
theorem dL_plain_348 : decode cL_plain 348 = .ok (.ifCond .eq 50, 3) := by decide +kernel
theorem dL_plain_351 : decode cL_plain 351 = .ok (.aload_n 0, 1) := by decide +kernel
theorem dL_plain_352 : decode cL_plain 352 = .ok (.iload 5, 2) := by decide +kernel
theorem dL_plain_354 : decode cL_plain 354 = .ok (.invokevirtual 106, 3) := by decide +kernel
theorem dL_plain_357 : decode cL_plain 357 = .ok (.iload 6, 2) := by decide +kernel
theorem dL_plain_359 : decode cL_plain 359 = .ok (.if_icmp .ne 39, 3) := by decide +kernel
theorem dL_plain_362 : decode cL_plain 362 = .ok (.iload 6, 2) := by decide +kernel
theorem dL_plain_364 : decode cL_plain 364 = .ok (.iload 12, 2) := by decide +kernel
theorem dL_plain_366 : decode cL_plain 366 = .ok (.if_icmp .eq 28, 3) := by decide +kernel
theorem dL_plain_369 : decode cL_plain 369 = .ok (.aload_n 0, 1) := by decide +kernel
theorem dL_plain_370 : decode cL_plain 370 = .ok (.iload 4, 2) := by decide +kernel
theorem dL_plain_372 : decode cL_plain 372 = .ok (.iload 5, 2) := by decide +kernel
theorem dL_plain_374 : decode cL_plain 374 = .ok (.iload 12, 2) := by decide +kernel
theorem dL_plain_376 : decode cL_plain 376 = .ok (.iconst 3, 1) := by decide +kernel
theorem dL_plain_377 : decode cL_plain 377 = .ok (.invokevirtual 50, 3) := by decide +kernel
theorem dL_plain_380 : decode cL_plain 380 = .ok (.ifCond .ne 18, 3) := by decide +kernel
theorem dL_plain_383 : decode cL_plain 383 = .ok (.aload_n 0, 1) := by decide +kernel
theorem dL_plain_384 : decode cL_plain 384 = .ok (.iload 5, 2) := by decide +kernel
theorem dL_plain_386 : decode cL_plain 386 = .ok (.invokevirtual 106, 3) := by decide +kernel
theorem dL_plain_389 : decode cL_plain 389 = .ok (.iload 6, 2) := by decide +kernel
theorem dL_plain_391 : decode cL_plain 391 = .ok (.if_icmp .ne 7, 3) := by decide +kernel
theorem dL_plain_394 : decode cL_plain 394 = .ok (.iconst 1, 1) := by decide +kernel
theorem dL_plain_395 : decode cL_plain 395 = .ok (.goto 4, 3) := by decide +kernel
theorem dL_plain_398 : decode cL_plain 398 = .ok (.iconst 0, 1) := by decide +kernel
theorem dL_plain_399 : decode cL_plain 399 = .ok (.istore 13, 2) := by decide +kernel
theorem dL_plain_401 : decode cL_plain 401 = .ok (.iload 13, 2) := by decide +kernel
theorem dL_plain_403 : decode cL_plain 403 = .ok (.ifCond .eq 30, 3) := by decide +kernel
theorem dL_plain_406 : decode cL_plain 406 = .ok (.aload_n 0, 1) := by decide +kernel
theorem dL_plain_407 : decode cL_plain 407 = .ok (.iconst (-1), 1) := by decide +kernel
theorem dL_plain_408 : decode cL_plain 408 = .ok (.invokestatic 124, 3) := by decide +kernel
theorem dL_plain_411 : decode cL_plain 411 = .ok (.lload 8, 2) := by decide +kernel
theorem dL_plain_413 : decode cL_plain 413 = .ok (.lcmp, 1) := by decide +kernel
theorem dL_plain_414 : decode cL_plain 414 = .ok (.ifCond .ne 19, 3) := by decide +kernel
theorem dL_plain_417 : decode cL_plain 417 = .ok (.aload_n 0, 1) := by decide +kernel
theorem dL_plain_418 : decode cL_plain 418 = .ok (.iload 5, 2) := by decide +kernel
theorem dL_plain_420 : decode cL_plain 420 = .ok (.invokestatic 128, 3) := by decide +kernel
theorem dL_plain_423 : decode cL_plain 423 = .ok (.lload 10, 2) := by decide +kernel
theorem dL_plain_425 : decode cL_plain 425 = .ok (.lcmp, 1) := by decide +kernel
theorem dL_plain_426 : decode cL_plain 426 = .ok (.ifCond .ne 7, 3) := by decide +kernel
theorem dL_plain_429 : decode cL_plain 429 = .ok (.iconst 1, 1) := by decide +kernel
theorem dL_plain_430 : decode cL_plain 430 = .ok (.goto 4, 3) := by decide +kernel
theorem dL_plain_433 : decode cL_plain 433 = .ok (.iconst 0, 1) := by decide +kernel
theorem dL_plain_434 : decode cL_plain 434 = .ok (.ireturn, 1) := by decide +kernel
