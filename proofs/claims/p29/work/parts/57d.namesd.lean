set_option maxRecDepth 20000 in
theorem ggL_waits_L_some : GoodIn wsL_waits wsL_some := goodIn_r _ [7] (by decide +kernel) (by decide +kernel)
set_option maxRecDepth 20000 in
theorem gL_waits_L_some : GoodIn wsL_waits (va_wsS RL 121 yL_some wsL_some) := goodIn_app (goodIn_of _ (by decide +kernel)) ggL_waits_L_some
set_option maxRecDepth 20000 in
theorem ggL_waits_X2_word : GoodIn wsL_waits wsX2_word := goodIn_ca (goodIn_r _ [12, 13, 14, 15, 11, 16, 17, 18, 19, 20, 21, 160, 161, 162, 163, 164, 165] (by decide +kernel) (by decide +kernel)) (goodIn_sub (fun _ h => List.mem_cons_of_mem _ (List.mem_append_left _ (List.mem_append_left _ (List.mem_append_right _ h)))) (by decide +kernel))
set_option maxRecDepth 20000 in
theorem gL_waits_X2_word : GoodIn wsL_waits (wsV RL 106 RX2 yX2_word wsX2_word) := goodIn_app (goodIn_of _ (by decide +kernel)) ggL_waits_X2_word
set_option maxRecDepth 20000 in
theorem ggL_waits_X2_stateOf : GoodIn wsL_waits wsX2_stateOf := goodIn_ca (goodIn_r _ [25, 26, 27, 28, 29, 11, 30, 17, 18, 31, 166, 167, 168, 169, 170, 171, 172, 173, 174, 175, 176, 160, 161, 162, 163, 164, 165] (by decide +kernel) (by decide +kernel)) (goodIn_sub (fun _ h => List.mem_cons_of_mem _ (List.mem_append_left _ (List.mem_append_left _ (List.mem_append_right _ h)))) (by decide +kernel))
set_option maxRecDepth 20000 in
theorem gL_waits_X2_stateOf : GoodIn wsL_waits (wsV RL 73 RX2 yX2_stateOf wsX2_stateOf) := goodIn_app (goodIn_of _ (by decide +kernel)) ggL_waits_X2_stateOf
set_option maxRecDepth 20000 in
theorem ggL_waits_X2_nextTimeout : GoodIn wsL_waits wsX2_nextTimeout := goodIn_r _ [35, 36, 37, 38, 39, 40, 11, 41, 31, 42, 43, 44, 45, 46, 47, 48, 166, 167, 168, 169, 170, 171, 172, 173, 174, 175, 176, 160, 161, 162, 163, 164, 165] (by decide +kernel) (by decide +kernel)
set_option maxRecDepth 20000 in
theorem gL_waits_X2_nextTimeout : GoodIn wsL_waits (wsV RL 118 RX2 yX2_nextTimeout wsX2_nextTimeout) := goodIn_app (goodIn_of _ (by decide +kernel)) ggL_waits_X2_nextTimeout
set_option maxRecDepth 20000 in
theorem ggL_waits_X2_resultOf : GoodIn wsL_waits wsX2_resultOf := goodIn_ca (goodIn_r _ [52, 53, 27, 28, 29, 11, 30, 17, 18, 31, 166, 167, 168, 169, 170, 171, 172, 173, 174, 175, 176, 160, 161, 162, 163, 164, 165] (by decide +kernel) (by decide +kernel)) (goodIn_sub (fun _ h => List.mem_cons_of_mem _ (List.mem_append_left _ (List.mem_append_left _ (List.mem_append_right _ h)))) (by decide +kernel))
set_option maxRecDepth 20000 in
theorem gL_waits_X2_resultOf : GoodIn wsL_waits (wsV RL 83 RX2 yX2_resultOf wsX2_resultOf) := goodIn_app (goodIn_of _ (by decide +kernel)) ggL_waits_X2_resultOf
set_option maxRecDepth 20000 in
theorem ggL_waits_L_threads : GoodIn wsL_waits wsL_threads := goodIn_ca (goodIn_r _ [56, 57, 58, 59, 60, 61, 62, 63, 64, 65, 11, 66, 37, 22, 23, 24, 25, 26, 27, 28, 29, 30, 17, 18, 31, 67, 68, 69, 70, 71, 49, 50, 51, 52, 53, 72, 73, 74, 75, 76, 77, 78, 79, 80, 81, 82, 83, 84, 85, 86, 87, 88, 89, 90, 91, 92, 93, 94, 95, 96, 97, 98, 99, 100, 101, 45, 102, 103, 104, 105, 106, 107, 108, 109, 110, 111, 112, 113, 114, 115, 116, 160, 161, 162, 163, 164, 165, 166, 167, 168, 169, 170, 171, 172, 173, 174, 175, 176, 177, 178] (by decide +kernel) (by decide +kernel)) (goodIn_sub (fun _ h => List.mem_cons_of_mem _ (List.mem_append_left _ (List.mem_append_left _ (List.mem_append_right _ h)))) (by decide +kernel))
set_option maxRecDepth 20000 in
theorem gL_waits_L_threads : GoodIn wsL_waits (va_wsS RL 124 yL_threads wsL_threads) := goodIn_app (goodIn_of _ (by decide +kernel)) ggL_waits_L_threads
set_option maxRecDepth 20000 in
theorem ggL_waits_L_words : GoodIn wsL_waits wsL_words := goodIn_ca (goodIn_r _ [119, 120, 8, 9, 10, 11, 12, 13, 14, 15, 16, 17, 18, 19, 20, 21, 160, 161, 162, 163, 164, 165] (by decide +kernel) (by decide +kernel)) (goodIn_sub (fun _ h => List.mem_cons_of_mem _ (List.mem_append_left _ (List.mem_append_left _ (List.mem_append_right _ h)))) (by decide +kernel))
set_option maxRecDepth 20000 in
theorem gL_waits_L_words : GoodIn wsL_waits (va_wsS RL 128 yL_words wsL_words) := goodIn_app (goodIn_of _ (by decide +kernel)) ggL_waits_L_words
set_option maxRecDepth 20000 in
theorem ggL_waits_L_await : GoodIn wsL_waits wsL_await := goodIn_ca (goodIn_ca (goodIn_ca (goodIn_r _ [123, 124, 125, 126, 1, 2, 3, 127, 128, 129, 11, 130, 13, 27, 28, 29, 30, 17, 18, 31, 14, 15, 16, 19, 20, 21, 131, 132, 133, 134, 135, 136, 137, 138, 139, 140, 26, 141, 142, 143, 144, 145, 37, 36, 146, 147, 148, 149, 150, 151, 71, 152, 153, 160, 161, 162, 163, 164, 165, 166, 167, 168, 169, 170, 171, 172, 173, 174, 175, 176] (by decide +kernel) (by decide +kernel)) (goodIn_sub (fun _ h => List.mem_cons_of_mem _ (List.mem_append_left _ (List.mem_append_left _ (List.mem_append_right _ h)))) (by decide +kernel))) (goodIn_sub (fun _ h => List.mem_cons_of_mem _ (List.mem_append_left _ (List.mem_append_right _ h))) (by decide +kernel))) (goodIn_sub (fun _ h => List.mem_cons_of_mem _ (List.mem_append_right _ h)) (by decide +kernel))
set_option maxRecDepth 20000 in
theorem gL_waits_L_await : GoodIn wsL_waits (va_wsS RL 141 yL_await wsL_await) := goodIn_app (goodIn_of _ (by decide +kernel)) ggL_waits_L_await
set_option maxRecDepth 20000 in
theorem ggL_waits_L_joined : GoodIn wsL_waits wsL_joined := goodIn_ca (goodIn_r _ [156, 157, 158, 6, 159, 94, 95, 96, 11, 97, 17, 18, 31, 71, 98, 99, 100, 101, 45, 102, 103, 104, 105, 106, 107, 108, 109, 110, 111, 112, 113, 114, 115, 116, 67, 68, 69, 70, 27, 28, 29, 30, 160, 161, 162, 163, 164, 165, 166, 167, 168, 169, 170, 171, 172, 173, 174, 175, 176] (by decide +kernel) (by decide +kernel)) (goodIn_sub (fun _ h => List.mem_cons_of_mem _ (List.mem_append_left _ (List.mem_append_left _ (List.mem_append_right _ h)))) (by decide +kernel))
set_option maxRecDepth 20000 in
theorem gL_waits_L_joined : GoodIn wsL_waits (va_wsS RL 143 yL_joined wsL_joined) := goodIn_app (goodIn_of _ (by decide +kernel)) ggL_waits_L_joined
theorem dL_waits_0 : decode cL_waits 0 = .ok (.iload_n 3, 1) := by decide +kernel
theorem dL_waits_1 : decode cL_waits 1 = .ok (.ifCond .eq 16, 3) := by decide +kernel
theorem dL_waits_4 : decode cL_waits 4 = .ok (.iload_n 2, 1) := by decide +kernel
theorem dL_waits_5 : decode cL_waits 5 = .ok (.iconst 2, 1) := by decide +kernel
theorem dL_waits_6 : decode cL_waits 6 = .ok (.ishr, 1) := by decide +kernel
theorem dL_waits_7 : decode cL_waits 7 = .ok (.bipush 10, 2) := by decide +kernel
theorem dL_waits_9 : decode cL_waits 9 = .ok (.invokestatic 121, 3) := by decide +kernel
theorem dL_waits_12 : decode cL_waits 12 = .ok (.iconst 1, 1) := by decide +kernel
theorem dL_waits_13 : decode cL_waits 13 = .ok (.isub, 1) := by decide +kernel
theorem dL_waits_14 : decode cL_waits 14 = .ok (.goto 11, 3) := by decide +kernel
theorem dL_waits_17 : decode cL_waits 17 = .ok (.iload_n 2, 1) := by decide +kernel
theorem dL_waits_18 : decode cL_waits 18 = .ok (.iconst 2, 1) := by decide +kernel
theorem dL_waits_19 : decode cL_waits 19 = .ok (.ishr, 1) := by decide +kernel
theorem dL_waits_20 : decode cL_waits 20 = .ok (.bipush 8, 2) := by decide +kernel
theorem dL_waits_22 : decode cL_waits 22 = .ok (.invokestatic 121, 3) := by decide +kernel
theorem dL_waits_25 : decode cL_waits 25 = .ok (.istore 4, 2) := by decide +kernel
theorem dL_waits_27 : decode cL_waits 27 = .ok (.iload_n 3, 1) := by decide +kernel
theorem dL_waits_28 : decode cL_waits 28 = .ok (.ifCond .eq 17, 3) := by decide +kernel
theorem dL_waits_31 : decode cL_waits 31 = .ok (.iload_n 2, 1) := by decide +kernel
theorem dL_waits_32 : decode cL_waits 32 = .ok (.bipush 6, 2) := by decide +kernel
theorem dL_waits_34 : decode cL_waits 34 = .ok (.ishr, 1) := by decide +kernel
theorem dL_waits_35 : decode cL_waits 35 = .ok (.bipush 18, 2) := by decide +kernel
theorem dL_waits_37 : decode cL_waits 37 = .ok (.invokestatic 121, 3) := by decide +kernel
theorem dL_waits_40 : decode cL_waits 40 = .ok (.iconst 1, 1) := by decide +kernel
theorem dL_waits_41 : decode cL_waits 41 = .ok (.isub, 1) := by decide +kernel
theorem dL_waits_42 : decode cL_waits 42 = .ok (.goto 11, 3) := by decide +kernel
theorem dL_waits_45 : decode cL_waits 45 = .ok (.iload_n 2, 1) := by decide +kernel
theorem dL_waits_46 : decode cL_waits 46 = .ok (.bipush 6, 2) := by decide +kernel
theorem dL_waits_48 : decode cL_waits 48 = .ok (.ishr, 1) := by decide +kernel
theorem dL_waits_49 : decode cL_waits 49 = .ok (.iconst 4, 1) := by decide +kernel
theorem dL_waits_50 : decode cL_waits 50 = .ok (.invokestatic 121, 3) := by decide +kernel
theorem dL_waits_53 : decode cL_waits 53 = .ok (.istore 5, 2) := by decide +kernel
theorem dL_waits_55 : decode cL_waits 55 = .ok (.iload 4, 2) := by decide +kernel
theorem dL_waits_57 : decode cL_waits 57 = .ok (.ifCond .lt 22, 3) := by decide +kernel
theorem dL_waits_60 : decode cL_waits 60 = .ok (.iload 4, 2) := by decide +kernel
theorem dL_waits_62 : decode cL_waits 62 = .ok (.bipush 7, 2) := by decide +kernel
theorem dL_waits_64 : decode cL_waits 64 = .ok (.if_icmp .gt 15, 3) := by decide +kernel
theorem dL_waits_67 : decode cL_waits 67 = .ok (.iload 5, 2) := by decide +kernel
theorem dL_waits_69 : decode cL_waits 69 = .ok (.ifCond .lt 10, 3) := by decide +kernel
theorem dL_waits_72 : decode cL_waits 72 = .ok (.iload 5, 2) := by decide +kernel
theorem dL_waits_74 : decode cL_waits 74 = .ok (.bipush 15, 2) := by decide +kernel
theorem dL_waits_76 : decode cL_waits 76 = .ok (.if_icmp .le 7, 3) := by decide +kernel
theorem dL_waits_79 : decode cL_waits 79 = .ok (.iconst 1, 1) := by decide +kernel
theorem dL_waits_80 : decode cL_waits 80 = .ok (.goto 4, 3) := by decide +kernel
theorem dL_waits_83 : decode cL_waits 83 = .ok (.iconst 0, 1) := by decide +kernel
theorem dL_waits_84 : decode cL_waits 84 = .ok (.istore 6, 2) := by decide +kernel
theorem dL_waits_86 : decode cL_waits 86 = .ok (.iload_n 3, 1) := by decide +kernel
theorem dL_waits_87 : decode cL_waits 87 = .ok (.ifCond .eq 18, 3) := by decide +kernel
theorem dL_waits_90 : decode cL_waits 90 = .ok (.iload_n 2, 1) := by decide +kernel
theorem dL_waits_91 : decode cL_waits 91 = .ok (.bipush 9, 2) := by decide +kernel
theorem dL_waits_93 : decode cL_waits 93 = .ok (.ishr, 1) := by decide +kernel
theorem dL_waits_94 : decode cL_waits 94 = .ok (.sipush 260, 3) := by decide +kernel
theorem dL_waits_97 : decode cL_waits 97 = .ok (.invokestatic 121, 3) := by decide +kernel
theorem dL_waits_100 : decode cL_waits 100 = .ok (.iconst 2, 1) := by decide +kernel
theorem dL_waits_101 : decode cL_waits 101 = .ok (.isub, 1) := by decide +kernel
theorem dL_waits_102 : decode cL_waits 102 = .ok (.goto 15, 3) := by decide +kernel
theorem dL_waits_105 : decode cL_waits 105 = .ok (.iconst 1, 1) := by decide +kernel
theorem dL_waits_106 : decode cL_waits 106 = .ok (.iload_n 2, 1) := by decide +kernel
theorem dL_waits_107 : decode cL_waits 107 = .ok (.bipush 9, 2) := by decide +kernel
theorem dL_waits_109 : decode cL_waits 109 = .ok (.ishr, 1) := by decide +kernel
theorem dL_waits_110 : decode cL_waits 110 = .ok (.sipush 255, 3) := by decide +kernel
theorem dL_waits_113 : decode cL_waits 113 = .ok (.invokestatic 121, 3) := by decide +kernel
theorem dL_waits_116 : decode cL_waits 116 = .ok (.iadd, 1) := by decide +kernel
theorem dL_waits_117 : decode cL_waits 117 = .ok (.istore 7, 2) := by decide +kernel
theorem dL_waits_119 : decode cL_waits 119 = .ok (.iload_n 3, 1) := by decide +kernel
theorem dL_waits_120 : decode cL_waits 120 = .ok (.ifCond .eq 18, 3) := by decide +kernel
theorem dL_waits_123 : decode cL_waits 123 = .ok (.iload_n 2, 1) := by decide +kernel
theorem dL_waits_124 : decode cL_waits 124 = .ok (.bipush 12, 2) := by decide +kernel
theorem dL_waits_126 : decode cL_waits 126 = .ok (.ishr, 1) := by decide +kernel
theorem dL_waits_127 : decode cL_waits 127 = .ok (.sipush 10010, 3) := by decide +kernel
theorem dL_waits_130 : decode cL_waits 130 = .ok (.invokestatic 121, 3) := by decide +kernel
theorem dL_waits_133 : decode cL_waits 133 = .ok (.iconst 5, 1) := by decide +kernel
theorem dL_waits_134 : decode cL_waits 134 = .ok (.isub, 1) := by decide +kernel
theorem dL_waits_135 : decode cL_waits 135 = .ok (.goto 29, 3) := by decide +kernel
theorem dL_waits_138 : decode cL_waits 138 = .ok (.iload_n 2, 1) := by decide +kernel
theorem dL_waits_139 : decode cL_waits 139 = .ok (.bipush 12, 2) := by decide +kernel
theorem dL_waits_141 : decode cL_waits 141 = .ok (.ishr, 1) := by decide +kernel
theorem dL_waits_142 : decode cL_waits 142 = .ok (.iconst 3, 1) := by decide +kernel
theorem dL_waits_143 : decode cL_waits 143 = .ok (.invokestatic 121, 3) := by decide +kernel
theorem dL_waits_146 : decode cL_waits 146 = .ok (.ifCond .ne 7, 3) := by decide +kernel
theorem dL_waits_149 : decode cL_waits 149 = .ok (.iconst 0, 1) := by decide +kernel
theorem dL_waits_150 : decode cL_waits 150 = .ok (.goto 14, 3) := by decide +kernel
theorem dL_waits_153 : decode cL_waits 153 = .ok (.iconst 1, 1) := by decide +kernel
theorem dL_waits_154 : decode cL_waits 154 = .ok (.iload_n 2, 1) := by decide +kernel
theorem dL_waits_155 : decode cL_waits 155 = .ok (.bipush 14, 2) := by decide +kernel
theorem dL_waits_157 : decode cL_waits 157 = .ok (.ishr, 1) := by decide +kernel
theorem dL_waits_158 : decode cL_waits 158 = .ok (.bipush 20, 2) := by decide +kernel
theorem dL_waits_160 : decode cL_waits 160 = .ok (.invokestatic 121, 3) := by decide +kernel
theorem dL_waits_163 : decode cL_waits 163 = .ok (.iadd, 1) := by decide +kernel
theorem dL_waits_164 : decode cL_waits 164 = .ok (.istore 8, 2) := by decide +kernel
theorem dL_waits_166 : decode cL_waits 166 = .ok (.iload 6, 2) := by decide +kernel
theorem dL_waits_168 : decode cL_waits 168 = .ok (.ifCond .eq 7, 3) := by decide +kernel
theorem dL_waits_171 : decode cL_waits 171 = .ok (.iconst 0, 1) := by decide +kernel
theorem dL_waits_172 : decode cL_waits 172 = .ok (.goto 26, 3) := by decide +kernel
theorem dL_waits_175 : decode cL_waits 175 = .ok (.aload_n 0, 1) := by decide +kernel
theorem dL_waits_176 : decode cL_waits 176 = .ok (.iload 5, 2) := by decide +kernel
theorem dL_waits_178 : decode cL_waits 178 = .ok (.invokevirtual 106, 3) := by decide +kernel
theorem dL_waits_181 : decode cL_waits 181 = .ok (.iload_n 2, 1) := by decide +kernel
theorem dL_waits_182 : decode cL_waits 182 = .ok (.bipush 16, 2) := by decide +kernel
theorem dL_waits_184 : decode cL_waits 184 = .ok (.ishr, 1) := by decide +kernel
theorem dL_waits_185 : decode cL_waits 185 = .ok (.iconst 5, 1) := by decide +kernel
theorem dL_waits_186 : decode cL_waits 186 = .ok (.invokestatic 121, 3) := by decide +kernel
theorem dL_waits_189 : decode cL_waits 189 = .ok (.ifCond .ne 7, 3) := by decide +kernel
theorem dL_waits_192 : decode cL_waits 192 = .ok (.iconst 1, 1) := by decide +kernel
theorem dL_waits_193 : decode cL_waits 193 = .ok (.goto 4, 3) := by decide +kernel
theorem dL_waits_196 : decode cL_waits 196 = .ok (.iconst 0, 1) := by decide +kernel
theorem dL_waits_197 : decode cL_waits 197 = .ok (.iadd, 1) := by decide +kernel
theorem dL_waits_198 : decode cL_waits 198 = .ok (.istore 9, 2) := by decide +kernel
theorem dL_waits_200 : decode cL_waits 200 = .ok (.iload 7, 2) := by decide +kernel
theorem dL_waits_202 : decode cL_waits 202 = .ok (.iconst 1, 1) := by decide +kernel
theorem dL_waits_203 : decode cL_waits 203 = .ok (.if_icmp .lt 24, 3) := by decide +kernel
theorem dL_waits_206 : decode cL_waits 206 = .ok (.iload 7, 2) := by decide +kernel
theorem dL_waits_208 : decode cL_waits 208 = .ok (.sipush 255, 3) := by decide +kernel
theorem dL_waits_211 : decode cL_waits 211 = .ok (.if_icmp .gt 16, 3) := by decide +kernel
theorem dL_waits_214 : decode cL_waits 214 = .ok (.iload 8, 2) := by decide +kernel
theorem dL_waits_216 : decode cL_waits 216 = .ok (.ifCond .lt 11, 3) := by decide +kernel
theorem dL_waits_219 : decode cL_waits 219 = .ok (.iload 8, 2) := by decide +kernel
theorem dL_waits_221 : decode cL_waits 221 = .ok (.sipush 10000, 3) := by decide +kernel
theorem dL_waits_224 : decode cL_waits 224 = .ok (.if_icmp .le 7, 3) := by decide +kernel
theorem dL_waits_227 : decode cL_waits 227 = .ok (.iconst 1, 1) := by decide +kernel
theorem dL_waits_228 : decode cL_waits 228 = .ok (.goto 4, 3) := by decide +kernel
theorem dL_waits_231 : decode cL_waits 231 = .ok (.iconst 0, 1) := by decide +kernel
theorem dL_waits_232 : decode cL_waits 232 = .ok (.istore 10, 2) := by decide +kernel
theorem dL_waits_234 : decode cL_waits 234 = .ok (.iload 6, 2) := by decide +kernel
theorem dL_waits_236 : decode cL_waits 236 = .ok (.ifCond .ne 21, 3) := by decide +kernel
theorem dL_waits_239 : decode cL_waits 239 = .ok (.iload 10, 2) := by decide +kernel
theorem dL_waits_241 : decode cL_waits 241 = .ok (.ifCond .ne 16, 3) := by decide +kernel
theorem dL_waits_244 : decode cL_waits 244 = .ok (.aload_n 0, 1) := by decide +kernel
theorem dL_waits_245 : decode cL_waits 245 = .ok (.iload 4, 2) := by decide +kernel
theorem dL_waits_247 : decode cL_waits 247 = .ok (.invokevirtual 73, 3) := by decide +kernel
theorem dL_waits_250 : decode cL_waits 250 = .ok (.ifCond .ne 7, 3) := by decide +kernel
theorem dL_waits_253 : decode cL_waits 253 = .ok (.iconst 1, 1) := by decide +kernel
theorem dL_waits_254 : decode cL_waits 254 = .ok (.goto 4, 3) := by decide +kernel
theorem dL_waits_257 : decode cL_waits 257 = .ok (.iconst 0, 1) := by decide +kernel
theorem dL_waits_258 : decode cL_waits 258 = .ok (.istore 11, 2) := by decide +kernel
theorem dL_waits_260 : decode cL_waits 260 = .ok (.aload_n 0, 1) := by decide +kernel
theorem dL_waits_261 : decode cL_waits 261 = .ok (.invokevirtual 118, 3) := by decide +kernel
theorem dL_waits_264 : decode cL_waits 264 = .ok (.istore 12, 2) := by decide +kernel
theorem dL_waits_266 : decode cL_waits 266 = .ok (.iload 6, 2) := by decide +kernel
theorem dL_waits_268 : decode cL_waits 268 = .ok (.ifCond .eq 7, 3) := by decide +kernel
theorem dL_waits_271 : decode cL_waits 271 = .ok (.iconst 0, 1) := by decide +kernel
theorem dL_waits_272 : decode cL_waits 272 = .ok (.goto 9, 3) := by decide +kernel
theorem dL_waits_275 : decode cL_waits 275 = .ok (.aload_n 0, 1) := by decide +kernel
theorem dL_waits_276 : decode cL_waits 276 = .ok (.iload 4, 2) := by decide +kernel
theorem dL_waits_278 : decode cL_waits 278 = .ok (.invokevirtual 83, 3) := by decide +kernel
theorem dL_waits_281 : decode cL_waits 281 = .ok (.istore 13, 2) := by decide +kernel
theorem dL_waits_283 : decode cL_waits 283 = .ok (.aload_n 0, 1) := by decide +kernel
theorem dL_waits_284 : decode cL_waits 284 = .ok (.iconst (-1), 1) := by decide +kernel
theorem dL_waits_285 : decode cL_waits 285 = .ok (.invokestatic 124, 3) := by decide +kernel
theorem dL_waits_288 : decode cL_waits 288 = .ok (.lstore 14, 2) := by decide +kernel
theorem dL_waits_290 : decode cL_waits 290 = .ok (.aload_n 0, 1) := by decide +kernel
theorem dL_waits_291 : decode cL_waits 291 = .ok (.iload 11, 2) := by decide +kernel
theorem dL_waits_293 : decode cL_waits 293 = .ok (.ifCond .eq 8, 3) := by decide +kernel
theorem dL_waits_296 : decode cL_waits 296 = .ok (.iload 4, 2) := by decide +kernel
theorem dL_waits_298 : decode cL_waits 298 = .ok (.goto 4, 3) := by decide +kernel
theorem dL_waits_301 : decode cL_waits 301 = .ok (.iconst (-1), 1) := by decide +kernel
theorem dL_waits_302 : decode cL_waits 302 = .ok (.invokestatic 124, 3) := by decide +kernel
theorem dL_waits_305 : decode cL_waits 305 = .ok (.lstore 16, 2) := by decide +kernel
theorem dL_waits_307 : decode cL_waits 307 = .ok (.aload_n 0, 1) := by decide +kernel
theorem dL_waits_308 : decode cL_waits 308 = .ok (.iconst (-1), 1) := by decide +kernel
theorem dL_waits_309 : decode cL_waits 309 = .ok (.invokestatic 128, 3) := by decide +kernel
theorem dL_waits_312 : decode cL_waits 312 = .ok (.lstore 18, 2) := by decide +kernel
theorem dL_waits_314 : decode cL_waits 314 = .ok (.aload_n 0, 1) := by decide +kernel
theorem dL_waits_315 : decode cL_waits 315 = .ok (.iload 4, 2) := by decide +kernel
theorem dL_waits_317 : decode cL_waits 317 = .ok (.iload 5, 2) := by decide +kernel
theorem dL_waits_319 : decode cL_waits 319 = .ok (.iload 9, 2) := by decide +kernel
theorem dL_waits_321 : decode cL_waits 321 = .ok (.iload 7, 2) := by decide +kernel
theorem dL_waits_323 : decode cL_waits 323 = .ok (.iload 8, 2) := by decide +kernel
theorem dL_waits_325 : decode cL_waits 325 = .ok (.invokestatic 141, 3) := by decide +kernel
theorem dL_waits_328 : decode cL_waits 328 = .ok (.istore 20, 2) := by decide +kernel
theorem dL_waits_330 : decode cL_waits 330 = .ok (.iload 20, 2) := by decide +kernel
theorem dL_waits_332 : decode cL_waits 332 = .ok (.iconst 1, 1) := by decide +kernel
theorem dL_waits_333 : decode cL_waits 333 = .ok (.if_icmp .eq 83, 3) := by decide +kernel
theorem dL_waits_336 : decode cL_waits 336 = .ok (.iload 20, 2) := by decide +kernel
theorem dL_waits_338 : decode cL_waits 338 = .ok (.iload 6, 2) := by decide +kernel
theorem dL_waits_340 : decode cL_waits 340 = .ok (.ifCond .eq 8, 3) := by decide +kernel
theorem dL_waits_343 : decode cL_waits 343 = .ok (.ldc 17, 2) := by decide +kernel
theorem dL_waits_345 : decode cL_waits 345 = .ok (.goto 24, 3) := by decide +kernel
theorem dL_waits_348 : decode cL_waits 348 = .ok (.iload 10, 2) := by decide +kernel
theorem dL_waits_350 : decode cL_waits 350 = .ok (.ifCond .eq 8, 3) := by decide +kernel
theorem dL_waits_353 : decode cL_waits 353 = .ok (.ldc 20, 2) := by decide +kernel
theorem dL_waits_355 : decode cL_waits 355 = .ok (.goto 14, 3) := by decide +kernel
theorem dL_waits_358 : decode cL_waits 358 = .ok (.iload 11, 2) := by decide +kernel
theorem dL_waits_360 : decode cL_waits 360 = .ok (.ifCond .ne 8, 3) := by decide +kernel
theorem dL_waits_363 : decode cL_waits 363 = .ok (.ldc 23, 2) := by decide +kernel
theorem dL_waits_365 : decode cL_waits 365 = .ok (.goto 4, 3) := by decide +kernel
theorem dL_waits_368 : decode cL_waits 368 = .ok (.iconst 0, 1) := by decide +kernel
theorem dL_waits_369 : decode cL_waits 369 = .ok (.if_icmp .ne 45, 3) := by decide +kernel
theorem dL_waits_372 : decode cL_waits 372 = .ok (.iload 11, 2) := by decide +kernel
theorem dL_waits_374 : decode cL_waits 374 = .ok (.ifCond .eq 14, 3) := by decide +kernel
theorem dL_waits_377 : decode cL_waits 377 = .ok (.aload_n 0, 1) := by decide +kernel
theorem dL_waits_378 : decode cL_waits 378 = .ok (.iload 5, 2) := by decide +kernel
theorem dL_waits_380 : decode cL_waits 380 = .ok (.invokevirtual 106, 3) := by decide +kernel
theorem dL_waits_383 : decode cL_waits 383 = .ok (.iload 9, 2) := by decide +kernel
theorem dL_waits_385 : decode cL_waits 385 = .ok (.if_icmp .eq 29, 3) := by decide +kernel
theorem dL_waits_388 : decode cL_waits 388 = .ok (.aload_n 0, 1) := by decide +kernel
theorem dL_waits_389 : decode cL_waits 389 = .ok (.iconst (-1), 1) := by decide +kernel
theorem dL_waits_390 : decode cL_waits 390 = .ok (.invokestatic 124, 3) := by decide +kernel
theorem dL_waits_393 : decode cL_waits 393 = .ok (.lload 14, 2) := by decide +kernel
theorem dL_waits_395 : decode cL_waits 395 = .ok (.lcmp, 1) := by decide +kernel
theorem dL_waits_396 : decode cL_waits 396 = .ok (.ifCond .ne 18, 3) := by decide +kernel
theorem dL_waits_399 : decode cL_waits 399 = .ok (.aload_n 0, 1) := by decide +kernel
theorem dL_waits_400 : decode cL_waits 400 = .ok (.iconst (-1), 1) := by decide +kernel
theorem dL_waits_401 : decode cL_waits 401 = .ok (.invokestatic 128, 3) := by decide +kernel
theorem dL_waits_404 : decode cL_waits 404 = .ok (.lload 18, 2) := by decide +kernel
theorem dL_waits_406 : decode cL_waits 406 = .ok (.lcmp, 1) := by decide +kernel
theorem dL_waits_407 : decode cL_waits 407 = .ok (.ifCond .ne 7, 3) := by decide +kernel
theorem dL_waits_410 : decode cL_waits 410 = .ok (.iconst 1, 1) := by decide +kernel
theorem dL_waits_411 : decode cL_waits 411 = .ok (.goto 4, 3) := by decide +kernel
theorem dL_waits_414 : decode cL_waits 414 = .ok (.iconst 0, 1) := by decide +kernel
theorem dL_waits_415 : decode cL_waits 415 = .ok (.ireturn, 1) := by decide +kernel
theorem dL_waits_416 : decode cL_waits 416 = .ok (.aload_n 1, 1) := by decide +kernel
theorem dL_waits_417 : decode cL_waits 417 = .ok (.bipush 8, 2) := by decide +kernel
theorem dL_waits_419 : decode cL_waits 419 = .ok (.iload 4, 2) := by decide +kernel
theorem dL_waits_421 : decode cL_waits 421 = .ok (.iadd, 1) := by decide +kernel
theorem dL_waits_422 : decode cL_waits 422 = .ok (.iload 7, 2) := by decide +kernel
theorem dL_waits_424 : decode cL_waits 424 = .ok (.iastore, 1) := by decide +kernel
theorem dL_waits_425 : decode cL_waits 425 = .ok (.iload 11, 2) := by decide +kernel
theorem dL_waits_427 : decode cL_waits 427 = .ok (.ifCond .eq 106, 3) := by decide +kernel
theorem dL_waits_430 : decode cL_waits 430 = .ok (.aload_n 0, 1) := by decide +kernel
theorem dL_waits_431 : decode cL_waits 431 = .ok (.iload 5, 2) := by decide +kernel
theorem dL_waits_433 : decode cL_waits 433 = .ok (.invokevirtual 106, 3) := by decide +kernel
theorem dL_waits_436 : decode cL_waits 436 = .ok (.iload 9, 2) := by decide +kernel
theorem dL_waits_438 : decode cL_waits 438 = .ok (.if_icmp .ne 95, 3) := by decide +kernel
theorem dL_waits_441 : decode cL_waits 441 = .ok (.aload_n 0, 1) := by decide +kernel
theorem dL_waits_442 : decode cL_waits 442 = .ok (.iload 4, 2) := by decide +kernel
theorem dL_waits_444 : decode cL_waits 444 = .ok (.invokevirtual 73, 3) := by decide +kernel
theorem dL_waits_447 : decode cL_waits 447 = .ok (.iconst 1, 1) := by decide +kernel
theorem dL_waits_448 : decode cL_waits 448 = .ok (.if_icmp .ne 85, 3) := by decide +kernel
theorem dL_waits_451 : decode cL_waits 451 = .ok (.aload_n 0, 1) := by decide +kernel
theorem dL_waits_452 : decode cL_waits 452 = .ok (.aload_n 1, 1) := by decide +kernel
theorem dL_waits_453 : decode cL_waits 453 = .ok (.iload 4, 2) := by decide +kernel
theorem dL_waits_455 : decode cL_waits 455 = .ok (.iload 5, 2) := by decide +kernel
theorem dL_waits_457 : decode cL_waits 457 = .ok (.invokestatic 143, 3) := by decide +kernel
theorem dL_waits_460 : decode cL_waits 460 = .ok (.ifCond .eq 73, 3) := by decide +kernel
theorem dL_waits_463 : decode cL_waits 463 = .ok (.aload_n 0, 1) := by decide +kernel
theorem dL_waits_464 : decode cL_waits 464 = .ok (.iload 4, 2) := by decide +kernel
theorem dL_waits_466 : decode cL_waits 466 = .ok (.invokevirtual 83, 3) := by decide +kernel
theorem dL_waits_469 : decode cL_waits 469 = .ok (.iload 13, 2) := by decide +kernel
theorem dL_waits_471 : decode cL_waits 471 = .ok (.if_icmp .ne 62, 3) := by decide +kernel
theorem dL_waits_474 : decode cL_waits 474 = .ok (.aload_n 0, 1) := by decide +kernel
theorem dL_waits_475 : decode cL_waits 475 = .ok (.invokevirtual 118, 3) := by decide +kernel
theorem dL_waits_478 : decode cL_waits 478 = .ok (.iload 8, 2) := by decide +kernel
theorem dL_waits_480 : decode cL_waits 480 = .ok (.ifCond .le 21, 3) := by decide +kernel
theorem dL_waits_483 : decode cL_waits 483 = .ok (.iload 12, 2) := by decide +kernel
theorem dL_waits_485 : decode cL_waits 485 = .ok (.iconst (-1), 1) := by decide +kernel
theorem dL_waits_486 : decode cL_waits 486 = .ok (.if_icmp .eq 10, 3) := by decide +kernel
theorem dL_waits_489 : decode cL_waits 489 = .ok (.iload 8, 2) := by decide +kernel
theorem dL_waits_491 : decode cL_waits 491 = .ok (.iload 12, 2) := by decide +kernel
theorem dL_waits_493 : decode cL_waits 493 = .ok (.if_icmp .ge 8, 3) := by decide +kernel
theorem dL_waits_496 : decode cL_waits 496 = .ok (.iload 8, 2) := by decide +kernel
theorem dL_waits_498 : decode cL_waits 498 = .ok (.goto 5, 3) := by decide +kernel
theorem dL_waits_501 : decode cL_waits 501 = .ok (.iload 12, 2) := by decide +kernel
theorem dL_waits_503 : decode cL_waits 503 = .ok (.if_icmp .ne 30, 3) := by decide +kernel
theorem dL_waits_506 : decode cL_waits 506 = .ok (.aload_n 0, 1) := by decide +kernel
theorem dL_waits_507 : decode cL_waits 507 = .ok (.iload 4, 2) := by decide +kernel
theorem dL_waits_509 : decode cL_waits 509 = .ok (.invokestatic 124, 3) := by decide +kernel
theorem dL_waits_512 : decode cL_waits 512 = .ok (.lload 16, 2) := by decide +kernel
theorem dL_waits_514 : decode cL_waits 514 = .ok (.lcmp, 1) := by decide +kernel
theorem dL_waits_515 : decode cL_waits 515 = .ok (.ifCond .ne 18, 3) := by decide +kernel
theorem dL_waits_518 : decode cL_waits 518 = .ok (.aload_n 0, 1) := by decide +kernel
theorem dL_waits_519 : decode cL_waits 519 = .ok (.iconst (-1), 1) := by decide +kernel
theorem dL_waits_520 : decode cL_waits 520 = .ok (.invokestatic 128, 3) := by decide +kernel
theorem dL_waits_523 : decode cL_waits 523 = .ok (.lload 18, 2) := by decide +kernel
theorem dL_waits_525 : decode cL_waits 525 = .ok (.lcmp, 1) := by decide +kernel
theorem dL_waits_526 : decode cL_waits 526 = .ok (.ifCond .ne 7, 3) := by decide +kernel
theorem dL_waits_529 : decode cL_waits 529 = .ok (.iconst 1, 1) := by decide +kernel
theorem dL_waits_530 : decode cL_waits 530 = .ok (.goto 4, 3) := by decide +kernel
theorem dL_waits_533 : decode cL_waits 533 = .ok (.iconst 0, 1) := by decide +kernel
theorem dL_waits_534 : decode cL_waits 534 = .ok (.ireturn, 1) := by decide +kernel
