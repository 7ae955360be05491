set_option maxRecDepth 20000 in
theorem ggL_whole_X2_queueAt : GoodIn wsL_whole wsX2_queueAt := goodIn_ca (goodIn_r _ [5, 6, 7, 8, 9, 10, 11, 12, 13, 14, 15, 16, 17, 18, 4, 19, 20, 21, 22, 23, 24, 25, 26, 27, 28, 29, 97, 98, 99, 100, 101, 102, 103, 104, 105, 106, 107, 108, 109, 110, 111, 112, 113] (by decide +kernel) (by decide +kernel)) (goodIn_sub (fun _ h => List.mem_cons_of_mem _ (List.mem_append_right _ h)) (by decide +kernel))
set_option maxRecDepth 20000 in
theorem gL_whole_X2_queueAt : GoodIn wsL_whole (wsV RL 97 RX2 yX2_queueAt wsX2_queueAt) := goodIn_app (goodIn_of _ (by decide +kernel)) ggL_whole_X2_queueAt
set_option maxRecDepth 20000 in
theorem ggL_whole_X2_stateOf : GoodIn wsL_whole wsX2_stateOf := goodIn_ca (goodIn_r _ [33, 34, 35, 36, 37, 4, 38, 6, 7, 8, 103, 104, 105, 106, 107, 108, 109, 110, 111, 112, 113, 97, 98, 99, 100, 101, 102] (by decide +kernel) (by decide +kernel)) (goodIn_sub (fun _ h => List.mem_cons_of_mem _ (List.mem_append_right _ h)) (by decide +kernel))
set_option maxRecDepth 20000 in
theorem gL_whole_X2_stateOf : GoodIn wsL_whole (wsV RL 73 RX2 yX2_stateOf wsX2_stateOf) := goodIn_app (goodIn_of _ (by decide +kernel)) ggL_whole_X2_stateOf
set_option maxRecDepth 20000 in
theorem ggL_whole_X2_addressOf : GoodIn wsL_whole wsX2_addressOf := goodIn_ca (goodIn_r _ [42, 9, 35, 36, 37, 4, 38, 6, 7, 8, 103, 104, 105, 106, 107, 108, 109, 110, 111, 112, 113, 97, 98, 99, 100, 101, 102] (by decide +kernel) (by decide +kernel)) (goodIn_sub (fun _ h => List.mem_cons_of_mem _ (List.mem_append_right _ h)) (by decide +kernel))
set_option maxRecDepth 20000 in
theorem gL_whole_X2_addressOf : GoodIn wsL_whole (wsV RL 78 RX2 yX2_addressOf wsX2_addressOf) := goodIn_app (goodIn_of _ (by decide +kernel)) ggL_whole_X2_addressOf
set_option maxRecDepth 20000 in
theorem ggL_whole_L_bucket : GoodIn wsL_whole wsL_bucket := goodIn_r _ [46] (by decide +kernel) (by decide +kernel)
set_option maxRecDepth 20000 in
theorem gL_whole_L_bucket : GoodIn wsL_whole (va_wsS RL 109 yL_bucket wsL_bucket) := goodIn_app (goodIn_of _ (by decide +kernel)) ggL_whole_L_bucket
set_option maxRecDepth 20000 in
theorem ggL_whole_X2_resultOf : GoodIn wsL_whole wsX2_resultOf := goodIn_ca (goodIn_r _ [50, 51, 35, 36, 37, 4, 38, 6, 7, 8, 103, 104, 105, 106, 107, 108, 109, 110, 111, 112, 113, 97, 98, 99, 100, 101, 102] (by decide +kernel) (by decide +kernel)) (goodIn_sub (fun _ h => List.mem_cons_of_mem _ (List.mem_append_right _ h)) (by decide +kernel))
set_option maxRecDepth 20000 in
theorem gL_whole_X2_resultOf : GoodIn wsL_whole (wsV RL 83 RX2 yX2_resultOf wsX2_resultOf) := goodIn_app (goodIn_of _ (by decide +kernel)) ggL_whole_X2_resultOf
set_option maxRecDepth 20000 in
theorem ggL_whole_X2_serialOf : GoodIn wsL_whole wsX2_serialOf := goodIn_ca (goodIn_r _ [55, 56, 35, 36, 37, 4, 38, 6, 7, 8, 103, 104, 105, 106, 107, 108, 109, 110, 111, 112, 113, 97, 98, 99, 100, 101, 102] (by decide +kernel) (by decide +kernel)) (goodIn_sub (fun _ h => List.mem_cons_of_mem _ (List.mem_append_right _ h)) (by decide +kernel))
set_option maxRecDepth 20000 in
theorem gL_whole_X2_serialOf : GoodIn wsL_whole (wsV RL 88 RX2 yX2_serialOf wsX2_serialOf) := goodIn_app (goodIn_of _ (by decide +kernel)) ggL_whole_X2_serialOf
set_option maxRecDepth 20000 in
theorem ggL_whole_X2_locks : GoodIn wsL_whole wsX2_locks := goodIn_ca (goodIn_r _ [60, 61, 62, 35, 36, 37, 4, 38, 6, 7, 8, 103, 104, 105, 106, 107, 108, 109, 110, 111, 112, 113, 114, 115, 97, 98, 99, 100, 101, 102] (by decide +kernel) (by decide +kernel)) (goodIn_sub (fun _ h => List.mem_cons_of_mem _ (List.mem_append_right _ h)) (by decide +kernel))
set_option maxRecDepth 20000 in
theorem gL_whole_X2_locks : GoodIn wsL_whole (wsV RL 91 RX2 yX2_locks wsX2_locks) := goodIn_app (goodIn_of _ (by decide +kernel)) ggL_whole_X2_locks
set_option maxRecDepth 20000 in
theorem ggL_whole_X2_waiters : GoodIn wsL_whole wsX2_waiters := goodIn_ca (goodIn_r _ [66, 8, 9, 67, 68, 4, 69, 6, 7, 70, 71, 72, 97, 98, 99, 100, 101, 102, 103, 104, 105, 106, 107, 108, 109, 110, 111, 112, 113] (by decide +kernel) (by decide +kernel)) (goodIn_sub (fun _ h => List.mem_cons_of_mem _ (List.mem_append_right _ h)) (by decide +kernel))
set_option maxRecDepth 20000 in
theorem gL_whole_X2_waiters : GoodIn wsL_whole (wsV RL 112 RX2 yX2_waiters wsX2_waiters) := goodIn_app (goodIn_of _ (by decide +kernel)) ggL_whole_X2_waiters
set_option maxRecDepth 20000 in
theorem ggL_whole_X2_waiterAt : GoodIn wsL_whole wsX2_waiterAt := goodIn_ca (goodIn_r _ [76, 6, 7, 8, 9, 10, 67, 68, 4, 69, 70, 71, 72, 77, 78, 79, 80, 24, 25, 26, 14, 27, 28, 29, 97, 98, 99, 100, 101, 102, 103, 104, 105, 106, 107, 108, 109, 110, 111, 112, 113] (by decide +kernel) (by decide +kernel)) (goodIn_sub (fun _ h => List.mem_cons_of_mem _ (List.mem_append_right _ h)) (by decide +kernel))
set_option maxRecDepth 20000 in
theorem gL_whole_X2_waiterAt : GoodIn wsL_whole (wsV RL 115 RX2 yX2_waiterAt wsX2_waiterAt) := goodIn_app (goodIn_of _ (by decide +kernel)) ggL_whole_X2_waiterAt
set_option maxRecDepth 20000 in
theorem ggL_whole_X2_nextTimeout : GoodIn wsL_whole wsX2_nextTimeout := goodIn_r _ [84, 85, 86, 87, 88, 89, 4, 90, 8, 91, 92, 93, 14, 94, 95, 96, 103, 104, 105, 106, 107, 108, 109, 110, 111, 112, 113, 97, 98, 99, 100, 101, 102] (by decide +kernel) (by decide +kernel)
set_option maxRecDepth 20000 in
theorem gL_whole_X2_nextTimeout : GoodIn wsL_whole (wsV RL 118 RX2 yX2_nextTimeout wsX2_nextTimeout) := goodIn_app (goodIn_of _ (by decide +kernel)) ggL_whole_X2_nextTimeout
theorem dL_whole_0 : decode cL_whole 0 = .ok (.iconst 0, 1) := by decide +kernel
theorem dL_whole_1 : decode cL_whole 1 = .ok (.istore_n 2, 1) := by decide +kernel
theorem dL_whole_2 : decode cL_whole 2 = .ok (.iconst 0, 1) := by decide +kernel
theorem dL_whole_3 : decode cL_whole 3 = .ok (.istore_n 3, 1) := by decide +kernel
theorem dL_whole_4 : decode cL_whole 4 = .ok (.iconst 1, 1) := by decide +kernel
theorem dL_whole_5 : decode cL_whole 5 = .ok (.istore 4, 2) := by decide +kernel
theorem dL_whole_7 : decode cL_whole 7 = .ok (.iconst 0, 1) := by decide +kernel
theorem dL_whole_8 : decode cL_whole 8 = .ok (.istore 5, 2) := by decide +kernel
theorem dL_whole_10 : decode cL_whole 10 = .ok (.iload 5, 2) := by decide +kernel
theorem dL_whole_12 : decode cL_whole 12 = .ok (.iconst 4, 1) := by decide +kernel
theorem dL_whole_13 : decode cL_whole 13 = .ok (.if_icmp .ge 166, 3) := by decide +kernel
theorem dL_whole_16 : decode cL_whole 16 = .ok (.iload 4, 2) := by decide +kernel
theorem dL_whole_18 : decode cL_whole 18 = .ok (.ifCond .eq 161, 3) := by decide +kernel
theorem dL_whole_21 : decode cL_whole 21 = .ok (.iconst 0, 1) := by decide +kernel
theorem dL_whole_22 : decode cL_whole 22 = .ok (.istore 6, 2) := by decide +kernel
theorem dL_whole_24 : decode cL_whole 24 = .ok (.aload_n 0, 1) := by decide +kernel
theorem dL_whole_25 : decode cL_whole 25 = .ok (.iload 5, 2) := by decide +kernel
theorem dL_whole_27 : decode cL_whole 27 = .ok (.iload 6, 2) := by decide +kernel
theorem dL_whole_29 : decode cL_whole 29 = .ok (.invokevirtual 97, 3) := by decide +kernel
theorem dL_whole_32 : decode cL_whole 32 = .ok (.iconst (-1), 1) := by decide +kernel
theorem dL_whole_33 : decode cL_whole 33 = .ok (.if_icmp .eq 140, 3) := by decide +kernel
theorem dL_whole_36 : decode cL_whole 36 = .ok (.iload 4, 2) := by decide +kernel
theorem dL_whole_38 : decode cL_whole 38 = .ok (.ifCond .eq 135, 3) := by decide +kernel
theorem dL_whole_41 : decode cL_whole 41 = .ok (.aload_n 0, 1) := by decide +kernel
theorem dL_whole_42 : decode cL_whole 42 = .ok (.iload 5, 2) := by decide +kernel
theorem dL_whole_44 : decode cL_whole 44 = .ok (.iload 6, 2) := by decide +kernel
theorem dL_whole_46 : decode cL_whole 46 = .ok (.invokevirtual 97, 3) := by decide +kernel
theorem dL_whole_49 : decode cL_whole 49 = .ok (.istore 7, 2) := by decide +kernel
theorem dL_whole_51 : decode cL_whole 51 = .ok (.iinc 2 1, 3) := by decide +kernel
theorem dL_whole_54 : decode cL_whole 54 = .ok (.iload 6, 2) := by decide +kernel
theorem dL_whole_56 : decode cL_whole 56 = .ok (.bipush 8, 2) := by decide +kernel
theorem dL_whole_58 : decode cL_whole 58 = .ok (.if_icmp .ge 65, 3) := by decide +kernel
theorem dL_whole_61 : decode cL_whole 61 = .ok (.aload_n 0, 1) := by decide +kernel
theorem dL_whole_62 : decode cL_whole 62 = .ok (.iload 7, 2) := by decide +kernel
theorem dL_whole_64 : decode cL_whole 64 = .ok (.invokevirtual 73, 3) := by decide +kernel
theorem dL_whole_67 : decode cL_whole 67 = .ok (.iconst 1, 1) := by decide +kernel
theorem dL_whole_68 : decode cL_whole 68 = .ok (.if_icmp .eq 13, 3) := by decide +kernel
theorem dL_whole_71 : decode cL_whole 71 = .ok (.aload_n 0, 1) := by decide +kernel
theorem dL_whole_72 : decode cL_whole 72 = .ok (.iload 7, 2) := by decide +kernel
theorem dL_whole_74 : decode cL_whole 74 = .ok (.invokevirtual 73, 3) := by decide +kernel
theorem dL_whole_77 : decode cL_whole 77 = .ok (.iconst 2, 1) := by decide +kernel
theorem dL_whole_78 : decode cL_whole 78 = .ok (.if_icmp .ne 45, 3) := by decide +kernel
theorem dL_whole_81 : decode cL_whole 81 = .ok (.aload_n 0, 1) := by decide +kernel
theorem dL_whole_82 : decode cL_whole 82 = .ok (.iload 7, 2) := by decide +kernel
theorem dL_whole_84 : decode cL_whole 84 = .ok (.invokevirtual 78, 3) := by decide +kernel
theorem dL_whole_87 : decode cL_whole 87 = .ok (.invokestatic 109, 3) := by decide +kernel
theorem dL_whole_90 : decode cL_whole 90 = .ok (.iload 5, 2) := by decide +kernel
theorem dL_whole_92 : decode cL_whole 92 = .ok (.if_icmp .ne 31, 3) := by decide +kernel
theorem dL_whole_95 : decode cL_whole 95 = .ok (.iload 6, 2) := by decide +kernel
theorem dL_whole_97 : decode cL_whole 97 = .ok (.ifCond .eq 22, 3) := by decide +kernel
theorem dL_whole_100 : decode cL_whole 100 = .ok (.aload_n 1, 1) := by decide +kernel
theorem dL_whole_101 : decode cL_whole 101 = .ok (.aload_n 0, 1) := by decide +kernel
theorem dL_whole_102 : decode cL_whole 102 = .ok (.iload 5, 2) := by decide +kernel
theorem dL_whole_104 : decode cL_whole 104 = .ok (.iload 6, 2) := by decide +kernel
theorem dL_whole_106 : decode cL_whole 106 = .ok (.iconst 1, 1) := by decide +kernel
theorem dL_whole_107 : decode cL_whole 107 = .ok (.isub, 1) := by decide +kernel
theorem dL_whole_108 : decode cL_whole 108 = .ok (.invokevirtual 97, 3) := by decide +kernel
theorem dL_whole_111 : decode cL_whole 111 = .ok (.iaload, 1) := by decide +kernel
theorem dL_whole_112 : decode cL_whole 112 = .ok (.aload_n 1, 1) := by decide +kernel
theorem dL_whole_113 : decode cL_whole 113 = .ok (.iload 7, 2) := by decide +kernel
theorem dL_whole_115 : decode cL_whole 115 = .ok (.iaload, 1) := by decide +kernel
theorem dL_whole_116 : decode cL_whole 116 = .ok (.if_icmp .lt 7, 3) := by decide +kernel
theorem dL_whole_119 : decode cL_whole 119 = .ok (.iconst 1, 1) := by decide +kernel
theorem dL_whole_120 : decode cL_whole 120 = .ok (.goto 4, 3) := by decide +kernel
theorem dL_whole_123 : decode cL_whole 123 = .ok (.iconst 0, 1) := by decide +kernel
theorem dL_whole_124 : decode cL_whole 124 = .ok (.istore 4, 2) := by decide +kernel
theorem dL_whole_126 : decode cL_whole 126 = .ok (.iconst 0, 1) := by decide +kernel
theorem dL_whole_127 : decode cL_whole 127 = .ok (.istore 8, 2) := by decide +kernel
theorem dL_whole_129 : decode cL_whole 129 = .ok (.iload 8, 2) := by decide +kernel
theorem dL_whole_131 : decode cL_whole 131 = .ok (.iload 6, 2) := by decide +kernel
theorem dL_whole_133 : decode cL_whole 133 = .ok (.if_icmp .ge 34, 3) := by decide +kernel
theorem dL_whole_136 : decode cL_whole 136 = .ok (.iload 4, 2) := by decide +kernel
theorem dL_whole_138 : decode cL_whole 138 = .ok (.ifCond .eq 29, 3) := by decide +kernel
theorem dL_whole_141 : decode cL_whole 141 = .ok (.aload_n 0, 1) := by decide +kernel
theorem dL_whole_142 : decode cL_whole 142 = .ok (.iload 5, 2) := by decide +kernel
theorem dL_whole_144 : decode cL_whole 144 = .ok (.iload 8, 2) := by decide +kernel
theorem dL_whole_146 : decode cL_whole 146 = .ok (.invokevirtual 97, 3) := by decide +kernel
theorem dL_whole_149 : decode cL_whole 149 = .ok (.iload 7, 2) := by decide +kernel
theorem dL_whole_151 : decode cL_whole 151 = .ok (.if_icmp .eq 7, 3) := by decide +kernel
theorem dL_whole_154 : decode cL_whole 154 = .ok (.iconst 1, 1) := by decide +kernel
theorem dL_whole_155 : decode cL_whole 155 = .ok (.goto 4, 3) := by decide +kernel
theorem dL_whole_158 : decode cL_whole 158 = .ok (.iconst 0, 1) := by decide +kernel
theorem dL_whole_159 : decode cL_whole 159 = .ok (.istore 4, 2) := by decide +kernel
theorem dL_whole_161 : decode cL_whole 161 = .ok (.iinc 8 1, 3) := by decide +kernel
theorem dL_whole_164 : decode cL_whole 164 = .ok (.goto (-35), 3) := by decide +kernel
theorem dL_whole_167 : decode cL_whole 167 = .ok (.iinc 6 1, 3) := by decide +kernel
theorem dL_whole_170 : decode cL_whole 170 = .ok (.goto (-146), 3) := by decide +kernel
theorem dL_whole_173 : decode cL_whole 173 = .ok (.iinc 5 1, 3) := by decide +kernel
theorem dL_whole_176 : decode cL_whole 176 = .ok (.goto (-166), 3) := by decide +kernel
theorem dL_whole_179 : decode cL_whole 179 = .ok (.iconst 0, 1) := by decide +kernel
theorem dL_whole_180 : decode cL_whole 180 = .ok (.istore 5, 2) := by decide +kernel
theorem dL_whole_182 : decode cL_whole 182 = .ok (.iload 5, 2) := by decide +kernel
theorem dL_whole_184 : decode cL_whole 184 = .ok (.bipush 8, 2) := by decide +kernel
theorem dL_whole_186 : decode cL_whole 186 = .ok (.if_icmp .ge 184, 3) := by decide +kernel
theorem dL_whole_189 : decode cL_whole 189 = .ok (.iload 4, 2) := by decide +kernel
theorem dL_whole_191 : decode cL_whole 191 = .ok (.ifCond .eq 179, 3) := by decide +kernel
theorem dL_whole_194 : decode cL_whole 194 = .ok (.aload_n 0, 1) := by decide +kernel
theorem dL_whole_195 : decode cL_whole 195 = .ok (.iload 5, 2) := by decide +kernel
theorem dL_whole_197 : decode cL_whole 197 = .ok (.invokevirtual 73, 3) := by decide +kernel
theorem dL_whole_200 : decode cL_whole 200 = .ok (.iconst 1, 1) := by decide +kernel
theorem dL_whole_201 : decode cL_whole 201 = .ok (.if_icmp .eq 13, 3) := by decide +kernel
theorem dL_whole_204 : decode cL_whole 204 = .ok (.aload_n 0, 1) := by decide +kernel
theorem dL_whole_205 : decode cL_whole 205 = .ok (.iload 5, 2) := by decide +kernel
theorem dL_whole_207 : decode cL_whole 207 = .ok (.invokevirtual 73, 3) := by decide +kernel
theorem dL_whole_210 : decode cL_whole 210 = .ok (.iconst 2, 1) := by decide +kernel
theorem dL_whole_211 : decode cL_whole 211 = .ok (.if_icmp .ne 7, 3) := by decide +kernel
theorem dL_whole_214 : decode cL_whole 214 = .ok (.iconst 1, 1) := by decide +kernel
theorem dL_whole_215 : decode cL_whole 215 = .ok (.goto 4, 3) := by decide +kernel
theorem dL_whole_218 : decode cL_whole 218 = .ok (.iconst 0, 1) := by decide +kernel
theorem dL_whole_219 : decode cL_whole 219 = .ok (.istore 6, 2) := by decide +kernel
theorem dL_whole_221 : decode cL_whole 221 = .ok (.iload_n 3, 1) := by decide +kernel
theorem dL_whole_222 : decode cL_whole 222 = .ok (.iload 6, 2) := by decide +kernel
theorem dL_whole_224 : decode cL_whole 224 = .ok (.ifCond .eq 7, 3) := by decide +kernel
theorem dL_whole_227 : decode cL_whole 227 = .ok (.iconst 1, 1) := by decide +kernel
theorem dL_whole_228 : decode cL_whole 228 = .ok (.goto 4, 3) := by decide +kernel
theorem dL_whole_231 : decode cL_whole 231 = .ok (.iconst 0, 1) := by decide +kernel
theorem dL_whole_232 : decode cL_whole 232 = .ok (.iadd, 1) := by decide +kernel
theorem dL_whole_233 : decode cL_whole 233 = .ok (.istore_n 3, 1) := by decide +kernel
theorem dL_whole_234 : decode cL_whole 234 = .ok (.iload 6, 2) := by decide +kernel
theorem dL_whole_236 : decode cL_whole 236 = .ok (.aload_n 0, 1) := by decide +kernel
theorem dL_whole_237 : decode cL_whole 237 = .ok (.iload 5, 2) := by decide +kernel
theorem dL_whole_239 : decode cL_whole 239 = .ok (.invokevirtual 78, 3) := by decide +kernel
theorem dL_whole_242 : decode cL_whole 242 = .ok (.iconst (-1), 1) := by decide +kernel
theorem dL_whole_243 : decode cL_whole 243 = .ok (.if_icmp .eq 7, 3) := by decide +kernel
theorem dL_whole_246 : decode cL_whole 246 = .ok (.iconst 1, 1) := by decide +kernel
theorem dL_whole_247 : decode cL_whole 247 = .ok (.goto 4, 3) := by decide +kernel
theorem dL_whole_250 : decode cL_whole 250 = .ok (.iconst 0, 1) := by decide +kernel
theorem dL_whole_251 : decode cL_whole 251 = .ok (.if_icmp .ne 58, 3) := by decide +kernel
theorem dL_whole_254 : decode cL_whole 254 = .ok (.aload_n 0, 1) := by decide +kernel
theorem dL_whole_255 : decode cL_whole 255 = .ok (.iload 5, 2) := by decide +kernel
theorem dL_whole_257 : decode cL_whole 257 = .ok (.invokevirtual 83, 3) := by decide +kernel
theorem dL_whole_260 : decode cL_whole 260 = .ok (.iconst (-1), 1) := by decide +kernel
theorem dL_whole_261 : decode cL_whole 261 = .ok (.if_icmp .ne 7, 3) := by decide +kernel
theorem dL_whole_264 : decode cL_whole 264 = .ok (.iconst 1, 1) := by decide +kernel
theorem dL_whole_265 : decode cL_whole 265 = .ok (.goto 4, 3) := by decide +kernel
theorem dL_whole_268 : decode cL_whole 268 = .ok (.iconst 0, 1) := by decide +kernel
theorem dL_whole_269 : decode cL_whole 269 = .ok (.aload_n 0, 1) := by decide +kernel
theorem dL_whole_270 : decode cL_whole 270 = .ok (.iload 5, 2) := by decide +kernel
theorem dL_whole_272 : decode cL_whole 272 = .ok (.invokevirtual 88, 3) := by decide +kernel
theorem dL_whole_275 : decode cL_whole 275 = .ok (.ifCond .ne 7, 3) := by decide +kernel
theorem dL_whole_278 : decode cL_whole 278 = .ok (.iconst 1, 1) := by decide +kernel
theorem dL_whole_279 : decode cL_whole 279 = .ok (.goto 4, 3) := by decide +kernel
theorem dL_whole_282 : decode cL_whole 282 = .ok (.iconst 0, 1) := by decide +kernel
theorem dL_whole_283 : decode cL_whole 283 = .ok (.if_icmp .ne 26, 3) := by decide +kernel
theorem dL_whole_286 : decode cL_whole 286 = .ok (.aload_n 0, 1) := by decide +kernel
theorem dL_whole_287 : decode cL_whole 287 = .ok (.iload 5, 2) := by decide +kernel
theorem dL_whole_289 : decode cL_whole 289 = .ok (.invokevirtual 73, 3) := by decide +kernel
theorem dL_whole_292 : decode cL_whole 292 = .ok (.iconst 3, 1) := by decide +kernel
theorem dL_whole_293 : decode cL_whole 293 = .ok (.if_icmp .ne 12, 3) := by decide +kernel
theorem dL_whole_296 : decode cL_whole 296 = .ok (.aload_n 0, 1) := by decide +kernel
theorem dL_whole_297 : decode cL_whole 297 = .ok (.iload 5, 2) := by decide +kernel
theorem dL_whole_299 : decode cL_whole 299 = .ok (.invokevirtual 91, 3) := by decide +kernel
theorem dL_whole_302 : decode cL_whole 302 = .ok (.ifCond .ne 7, 3) := by decide +kernel
theorem dL_whole_305 : decode cL_whole 305 = .ok (.iconst 1, 1) := by decide +kernel
theorem dL_whole_306 : decode cL_whole 306 = .ok (.goto 4, 3) := by decide +kernel
theorem dL_whole_309 : decode cL_whole 309 = .ok (.iconst 0, 1) := by decide +kernel
theorem dL_whole_310 : decode cL_whole 310 = .ok (.istore 4, 2) := by decide +kernel
theorem dL_whole_312 : decode cL_whole 312 = .ok (.iconst 0, 1) := by decide +kernel
theorem dL_whole_313 : decode cL_whole 313 = .ok (.istore 7, 2) := by decide +kernel
theorem dL_whole_315 : decode cL_whole 315 = .ok (.iload 7, 2) := by decide +kernel
theorem dL_whole_317 : decode cL_whole 317 = .ok (.iload 5, 2) := by decide +kernel
theorem dL_whole_319 : decode cL_whole 319 = .ok (.if_icmp .ge 45, 3) := by decide +kernel
theorem dL_whole_322 : decode cL_whole 322 = .ok (.iload 4, 2) := by decide +kernel
theorem dL_whole_324 : decode cL_whole 324 = .ok (.ifCond .eq 40, 3) := by decide +kernel
theorem dL_whole_327 : decode cL_whole 327 = .ok (.aload_n 0, 1) := by decide +kernel
theorem dL_whole_328 : decode cL_whole 328 = .ok (.iload 5, 2) := by decide +kernel
theorem dL_whole_330 : decode cL_whole 330 = .ok (.invokevirtual 88, 3) := by decide +kernel
theorem dL_whole_333 : decode cL_whole 333 = .ok (.ifCond .eq 18, 3) := by decide +kernel
theorem dL_whole_336 : decode cL_whole 336 = .ok (.aload_n 0, 1) := by decide +kernel
theorem dL_whole_337 : decode cL_whole 337 = .ok (.iload 7, 2) := by decide +kernel
theorem dL_whole_339 : decode cL_whole 339 = .ok (.invokevirtual 88, 3) := by decide +kernel
theorem dL_whole_342 : decode cL_whole 342 = .ok (.aload_n 0, 1) := by decide +kernel
theorem dL_whole_343 : decode cL_whole 343 = .ok (.iload 5, 2) := by decide +kernel
theorem dL_whole_345 : decode cL_whole 345 = .ok (.invokevirtual 88, 3) := by decide +kernel
theorem dL_whole_348 : decode cL_whole 348 = .ok (.if_icmp .eq 7, 3) := by decide +kernel
theorem dL_whole_351 : decode cL_whole 351 = .ok (.iconst 1, 1) := by decide +kernel
theorem dL_whole_352 : decode cL_whole 352 = .ok (.goto 4, 3) := by decide +kernel
theorem dL_whole_355 : decode cL_whole 355 = .ok (.iconst 0, 1) := by decide +kernel
theorem dL_whole_356 : decode cL_whole 356 = .ok (.istore 4, 2) := by decide +kernel
theorem dL_whole_358 : decode cL_whole 358 = .ok (.iinc 7 1, 3) := by decide +kernel
theorem dL_whole_361 : decode cL_whole 361 = .ok (.goto (-46), 3) := by decide +kernel
theorem dL_whole_364 : decode cL_whole 364 = .ok (.iinc 5 1, 3) := by decide +kernel
theorem dL_whole_367 : decode cL_whole 367 = .ok (.goto (-185), 3) := by decide +kernel
theorem dL_whole_370 : decode cL_whole 370 = .ok (.iconst 0, 1) := by decide +kernel
theorem dL_whole_371 : decode cL_whole 371 = .ok (.istore 5, 2) := by decide +kernel
theorem dL_whole_373 : decode cL_whole 373 = .ok (.iconst 0, 1) := by decide +kernel
theorem dL_whole_374 : decode cL_whole 374 = .ok (.istore 6, 2) := by decide +kernel
theorem dL_whole_376 : decode cL_whole 376 = .ok (.iload 6, 2) := by decide +kernel
theorem dL_whole_378 : decode cL_whole 378 = .ok (.bipush 16, 2) := by decide +kernel
theorem dL_whole_380 : decode cL_whole 380 = .ok (.if_icmp .ge 152, 3) := by decide +kernel
theorem dL_whole_383 : decode cL_whole 383 = .ok (.iload 4, 2) := by decide +kernel
theorem dL_whole_385 : decode cL_whole 385 = .ok (.ifCond .eq 147, 3) := by decide +kernel
theorem dL_whole_388 : decode cL_whole 388 = .ok (.aload_n 0, 1) := by decide +kernel
theorem dL_whole_389 : decode cL_whole 389 = .ok (.iload 6, 2) := by decide +kernel
theorem dL_whole_391 : decode cL_whole 391 = .ok (.invokevirtual 112, 3) := by decide +kernel
theorem dL_whole_394 : decode cL_whole 394 = .ok (.istore 7, 2) := by decide +kernel
theorem dL_whole_396 : decode cL_whole 396 = .ok (.iconst 0, 1) := by decide +kernel
theorem dL_whole_397 : decode cL_whole 397 = .ok (.istore 8, 2) := by decide +kernel
theorem dL_whole_399 : decode cL_whole 399 = .ok (.iload 5, 2) := by decide +kernel
theorem dL_whole_401 : decode cL_whole 401 = .ok (.iload 7, 2) := by decide +kernel
theorem dL_whole_403 : decode cL_whole 403 = .ok (.iadd, 1) := by decide +kernel
theorem dL_whole_404 : decode cL_whole 404 = .ok (.istore 5, 2) := by decide +kernel
theorem dL_whole_406 : decode cL_whole 406 = .ok (.iconst 0, 1) := by decide +kernel
theorem dL_whole_407 : decode cL_whole 407 = .ok (.istore 9, 2) := by decide +kernel
theorem dL_whole_409 : decode cL_whole 409 = .ok (.aload_n 0, 1) := by decide +kernel
theorem dL_whole_410 : decode cL_whole 410 = .ok (.iload 6, 2) := by decide +kernel
theorem dL_whole_412 : decode cL_whole 412 = .ok (.invokestatic 109, 3) := by decide +kernel
theorem dL_whole_415 : decode cL_whole 415 = .ok (.iload 9, 2) := by decide +kernel
theorem dL_whole_417 : decode cL_whole 417 = .ok (.invokevirtual 97, 3) := by decide +kernel
theorem dL_whole_420 : decode cL_whole 420 = .ok (.iconst (-1), 1) := by decide +kernel
theorem dL_whole_421 : decode cL_whole 421 = .ok (.if_icmp .eq 86, 3) := by decide +kernel
theorem dL_whole_424 : decode cL_whole 424 = .ok (.iload 4, 2) := by decide +kernel
theorem dL_whole_426 : decode cL_whole 426 = .ok (.ifCond .eq 81, 3) := by decide +kernel
theorem dL_whole_429 : decode cL_whole 429 = .ok (.aload_n 0, 1) := by decide +kernel
theorem dL_whole_430 : decode cL_whole 430 = .ok (.iload 6, 2) := by decide +kernel
theorem dL_whole_432 : decode cL_whole 432 = .ok (.invokestatic 109, 3) := by decide +kernel
theorem dL_whole_435 : decode cL_whole 435 = .ok (.iload 9, 2) := by decide +kernel
theorem dL_whole_437 : decode cL_whole 437 = .ok (.invokevirtual 97, 3) := by decide +kernel
theorem dL_whole_440 : decode cL_whole 440 = .ok (.istore 10, 2) := by decide +kernel
theorem dL_whole_442 : decode cL_whole 442 = .ok (.aload_n 0, 1) := by decide +kernel
theorem dL_whole_443 : decode cL_whole 443 = .ok (.iload 10, 2) := by decide +kernel
theorem dL_whole_445 : decode cL_whole 445 = .ok (.invokevirtual 78, 3) := by decide +kernel
theorem dL_whole_448 : decode cL_whole 448 = .ok (.iload 6, 2) := by decide +kernel
theorem dL_whole_450 : decode cL_whole 450 = .ok (.if_icmp .ne 23, 3) := by decide +kernel
theorem dL_whole_453 : decode cL_whole 453 = .ok (.iload 8, 2) := by decide +kernel
theorem dL_whole_455 : decode cL_whole 455 = .ok (.iload 7, 2) := by decide +kernel
theorem dL_whole_457 : decode cL_whole 457 = .ok (.if_icmp .ge 20, 3) := by decide +kernel
theorem dL_whole_460 : decode cL_whole 460 = .ok (.aload_n 0, 1) := by decide +kernel
theorem dL_whole_461 : decode cL_whole 461 = .ok (.iload 6, 2) := by decide +kernel
theorem dL_whole_463 : decode cL_whole 463 = .ok (.iload 8, 2) := by decide +kernel
theorem dL_whole_465 : decode cL_whole 465 = .ok (.invokevirtual 115, 3) := by decide +kernel
theorem dL_whole_468 : decode cL_whole 468 = .ok (.iload 10, 2) := by decide +kernel
theorem dL_whole_470 : decode cL_whole 470 = .ok (.if_icmp .ne 7, 3) := by decide +kernel
theorem dL_whole_473 : decode cL_whole 473 = .ok (.iconst 1, 1) := by decide +kernel
theorem dL_whole_474 : decode cL_whole 474 = .ok (.goto 4, 3) := by decide +kernel
theorem dL_whole_477 : decode cL_whole 477 = .ok (.iconst 0, 1) := by decide +kernel
theorem dL_whole_478 : decode cL_whole 478 = .ok (.istore 4, 2) := by decide +kernel
theorem dL_whole_480 : decode cL_whole 480 = .ok (.iload 8, 2) := by decide +kernel
theorem dL_whole_482 : decode cL_whole 482 = .ok (.aload_n 0, 1) := by decide +kernel
theorem dL_whole_483 : decode cL_whole 483 = .ok (.iload 10, 2) := by decide +kernel
theorem dL_whole_485 : decode cL_whole 485 = .ok (.invokevirtual 78, 3) := by decide +kernel
theorem dL_whole_488 : decode cL_whole 488 = .ok (.iload 6, 2) := by decide +kernel
theorem dL_whole_490 : decode cL_whole 490 = .ok (.if_icmp .ne 7, 3) := by decide +kernel
theorem dL_whole_493 : decode cL_whole 493 = .ok (.iconst 1, 1) := by decide +kernel
theorem dL_whole_494 : decode cL_whole 494 = .ok (.goto 4, 3) := by decide +kernel
theorem dL_whole_497 : decode cL_whole 497 = .ok (.iconst 0, 1) := by decide +kernel
theorem dL_whole_498 : decode cL_whole 498 = .ok (.iadd, 1) := by decide +kernel
theorem dL_whole_499 : decode cL_whole 499 = .ok (.istore 8, 2) := by decide +kernel
theorem dL_whole_501 : decode cL_whole 501 = .ok (.iinc 9 1, 3) := by decide +kernel
theorem dL_whole_504 : decode cL_whole 504 = .ok (.goto (-95), 3) := by decide +kernel
theorem dL_whole_507 : decode cL_whole 507 = .ok (.iload 4, 2) := by decide +kernel
theorem dL_whole_509 : decode cL_whole 509 = .ok (.ifCond .eq 14, 3) := by decide +kernel
theorem dL_whole_512 : decode cL_whole 512 = .ok (.iload 8, 2) := by decide +kernel
theorem dL_whole_514 : decode cL_whole 514 = .ok (.iload 7, 2) := by decide +kernel
theorem dL_whole_516 : decode cL_whole 516 = .ok (.if_icmp .ne 7, 3) := by decide +kernel
theorem dL_whole_519 : decode cL_whole 519 = .ok (.iconst 1, 1) := by decide +kernel
theorem dL_whole_520 : decode cL_whole 520 = .ok (.goto 4, 3) := by decide +kernel
theorem dL_whole_523 : decode cL_whole 523 = .ok (.iconst 0, 1) := by decide +kernel
theorem dL_whole_524 : decode cL_whole 524 = .ok (.istore 4, 2) := by decide +kernel
theorem dL_whole_526 : decode cL_whole 526 = .ok (.iinc 6 1, 3) := by decide +kernel
theorem dL_whole_529 : decode cL_whole 529 = .ok (.goto (-153), 3) := by decide +kernel
theorem dL_whole_532 : decode cL_whole 532 = .ok (.aload_n 0, 1) := by decide +kernel
theorem dL_whole_533 : decode cL_whole 533 = .ok (.invokevirtual 118, 3) := by decide +kernel
theorem dL_whole_536 : decode cL_whole 536 = .ok (.istore 6, 2) := by decide +kernel
theorem dL_whole_538 : decode cL_whole 538 = .ok (.iload 4, 2) := by decide +kernel
theorem dL_whole_540 : decode cL_whole 540 = .ok (.ifCond .eq 29, 3) := by decide +kernel
theorem dL_whole_543 : decode cL_whole 543 = .ok (.iload_n 2, 1) := by decide +kernel
theorem dL_whole_544 : decode cL_whole 544 = .ok (.iload_n 3, 1) := by decide +kernel
theorem dL_whole_545 : decode cL_whole 545 = .ok (.if_icmp .ne 24, 3) := by decide +kernel
theorem dL_whole_548 : decode cL_whole 548 = .ok (.iload 5, 2) := by decide +kernel
theorem dL_whole_550 : decode cL_whole 550 = .ok (.iload_n 3, 1) := by decide +kernel
theorem dL_whole_551 : decode cL_whole 551 = .ok (.if_icmp .ne 18, 3) := by decide +kernel
theorem dL_whole_554 : decode cL_whole 554 = .ok (.iload 6, 2) := by decide +kernel
theorem dL_whole_556 : decode cL_whole 556 = .ok (.iconst (-1), 1) := by decide +kernel
theorem dL_whole_557 : decode cL_whole 557 = .ok (.if_icmp .eq 8, 3) := by decide +kernel
theorem dL_whole_560 : decode cL_whole 560 = .ok (.iload 6, 2) := by decide +kernel
theorem dL_whole_562 : decode cL_whole 562 = .ok (.ifCond .le 7, 3) := by decide +kernel
theorem dL_whole_565 : decode cL_whole 565 = .ok (.iconst 1, 1) := by decide +kernel
theorem dL_whole_566 : decode cL_whole 566 = .ok (.goto 4, 3) := by decide +kernel
theorem dL_whole_569 : decode cL_whole 569 = .ok (.iconst 0, 1) := by decide +kernel
theorem dL_whole_570 : decode cL_whole 570 = .ok (.ireturn, 1) := by decide +kernel
set_option maxRecDepth 20000 in
theorem ggL_joined_L_bucket : GoodIn wsL_joined wsL_bucket := goodIn_r _ [4] (by decide +kernel) (by decide +kernel)
set_option maxRecDepth 20000 in
theorem gL_joined_L_bucket : GoodIn wsL_joined (va_wsS RL 109 yL_bucket wsL_bucket) := goodIn_app (goodIn_of _ (by decide +kernel)) ggL_joined_L_bucket
set_option maxRecDepth 20000 in
theorem ggL_joined_X2_queueAt : GoodIn wsL_joined wsX2_queueAt := goodIn_ca (goodIn_r _ [9, 10, 11, 12, 13, 14, 15, 16, 17, 18, 19, 20, 21, 22, 8, 23, 24, 25, 26, 27, 28, 29, 30, 31, 32, 33, 42, 43, 44, 45, 46, 47, 48, 49, 50, 51, 52, 53, 54, 55, 56, 57, 58] (by decide +kernel) (by decide +kernel)) (goodIn_sub (fun _ h => List.mem_cons_of_mem _ (List.mem_append_right _ h)) (by decide +kernel))
set_option maxRecDepth 20000 in
theorem gL_joined_X2_queueAt : GoodIn wsL_joined (wsV RL 97 RX2 yX2_queueAt wsX2_queueAt) := goodIn_app (goodIn_of _ (by decide +kernel)) ggL_joined_X2_queueAt
set_option maxRecDepth 20000 in
theorem ggL_joined_X2_addressOf : GoodIn wsL_joined wsX2_addressOf := goodIn_ca (goodIn_r _ [37, 13, 38, 39, 40, 8, 41, 10, 11, 12, 48, 49, 50, 51, 52, 53, 54, 55, 56, 57, 58, 42, 43, 44, 45, 46, 47] (by decide +kernel) (by decide +kernel)) (goodIn_sub (fun _ h => List.mem_cons_of_mem _ (List.mem_append_right _ h)) (by decide +kernel))
set_option maxRecDepth 20000 in
theorem gL_joined_X2_addressOf : GoodIn wsL_joined (wsV RL 78 RX2 yX2_addressOf wsX2_addressOf) := goodIn_app (goodIn_of _ (by decide +kernel)) ggL_joined_X2_addressOf
theorem dL_joined_0 : decode cL_joined 0 = .ok (.iload_n 3, 1) := by decide +kernel
theorem dL_joined_1 : decode cL_joined 1 = .ok (.invokestatic 109, 3) := by decide +kernel
theorem dL_joined_4 : decode cL_joined 4 = .ok (.istore 4, 2) := by decide +kernel
theorem dL_joined_6 : decode cL_joined 6 = .ok (.iconst 0, 1) := by decide +kernel
theorem dL_joined_7 : decode cL_joined 7 = .ok (.istore 5, 2) := by decide +kernel
theorem dL_joined_9 : decode cL_joined 9 = .ok (.aload_n 0, 1) := by decide +kernel
theorem dL_joined_10 : decode cL_joined 10 = .ok (.iload 4, 2) := by decide +kernel
theorem dL_joined_12 : decode cL_joined 12 = .ok (.iload 5, 2) := by decide +kernel
theorem dL_joined_14 : decode cL_joined 14 = .ok (.invokevirtual 97, 3) := by decide +kernel
theorem dL_joined_17 : decode cL_joined 17 = .ok (.iconst (-1), 1) := by decide +kernel
theorem dL_joined_18 : decode cL_joined 18 = .ok (.if_icmp .eq 21, 3) := by decide +kernel
theorem dL_joined_21 : decode cL_joined 21 = .ok (.aload_n 0, 1) := by decide +kernel
theorem dL_joined_22 : decode cL_joined 22 = .ok (.iload 4, 2) := by decide +kernel
theorem dL_joined_24 : decode cL_joined 24 = .ok (.iload 5, 2) := by decide +kernel
theorem dL_joined_26 : decode cL_joined 26 = .ok (.invokevirtual 97, 3) := by decide +kernel
theorem dL_joined_29 : decode cL_joined 29 = .ok (.iload_n 2, 1) := by decide +kernel
theorem dL_joined_30 : decode cL_joined 30 = .ok (.if_icmp .eq 9, 3) := by decide +kernel
theorem dL_joined_33 : decode cL_joined 33 = .ok (.iinc 5 1, 3) := by decide +kernel
theorem dL_joined_36 : decode cL_joined 36 = .ok (.goto (-27), 3) := by decide +kernel
theorem dL_joined_39 : decode cL_joined 39 = .ok (.aload_n 0, 1) := by decide +kernel
theorem dL_joined_40 : decode cL_joined 40 = .ok (.iload 4, 2) := by decide +kernel
theorem dL_joined_42 : decode cL_joined 42 = .ok (.iload 5, 2) := by decide +kernel
theorem dL_joined_44 : decode cL_joined 44 = .ok (.invokevirtual 97, 3) := by decide +kernel
theorem dL_joined_47 : decode cL_joined 47 = .ok (.iload_n 2, 1) := by decide +kernel
theorem dL_joined_48 : decode cL_joined 48 = .ok (.if_icmp .ne 16, 3) := by decide +kernel
theorem dL_joined_51 : decode cL_joined 51 = .ok (.aload_n 0, 1) := by decide +kernel
theorem dL_joined_52 : decode cL_joined 52 = .ok (.iload_n 2, 1) := by decide +kernel
theorem dL_joined_53 : decode cL_joined 53 = .ok (.invokevirtual 78, 3) := by decide +kernel
theorem dL_joined_56 : decode cL_joined 56 = .ok (.iload_n 3, 1) := by decide +kernel
theorem dL_joined_57 : decode cL_joined 57 = .ok (.if_icmp .ne 7, 3) := by decide +kernel
theorem dL_joined_60 : decode cL_joined 60 = .ok (.iconst 1, 1) := by decide +kernel
theorem dL_joined_61 : decode cL_joined 61 = .ok (.goto 4, 3) := by decide +kernel
theorem dL_joined_64 : decode cL_joined 64 = .ok (.iconst 0, 1) := by decide +kernel
theorem dL_joined_65 : decode cL_joined 65 = .ok (.istore 6, 2) := by decide +kernel
theorem dL_joined_67 : decode cL_joined 67 = .ok (.iload 5, 2) := by decide +kernel
theorem dL_joined_69 : decode cL_joined 69 = .ok (.iconst 1, 1) := by decide +kernel
theorem dL_joined_70 : decode cL_joined 70 = .ok (.iadd, 1) := by decide +kernel
theorem dL_joined_71 : decode cL_joined 71 = .ok (.istore 7, 2) := by decide +kernel
theorem dL_joined_73 : decode cL_joined 73 = .ok (.aload_n 0, 1) := by decide +kernel
theorem dL_joined_74 : decode cL_joined 74 = .ok (.iload 4, 2) := by decide +kernel
theorem dL_joined_76 : decode cL_joined 76 = .ok (.iload 7, 2) := by decide +kernel
theorem dL_joined_78 : decode cL_joined 78 = .ok (.invokevirtual 97, 3) := by decide +kernel
theorem dL_joined_81 : decode cL_joined 81 = .ok (.iconst (-1), 1) := by decide +kernel
theorem dL_joined_82 : decode cL_joined 82 = .ok (.if_icmp .eq 37, 3) := by decide +kernel
theorem dL_joined_85 : decode cL_joined 85 = .ok (.iload 6, 2) := by decide +kernel
theorem dL_joined_87 : decode cL_joined 87 = .ok (.ifCond .eq 32, 3) := by decide +kernel
theorem dL_joined_90 : decode cL_joined 90 = .ok (.aload_n 1, 1) := by decide +kernel
theorem dL_joined_91 : decode cL_joined 91 = .ok (.aload_n 0, 1) := by decide +kernel
theorem dL_joined_92 : decode cL_joined 92 = .ok (.iload 4, 2) := by decide +kernel
theorem dL_joined_94 : decode cL_joined 94 = .ok (.iload 7, 2) := by decide +kernel
theorem dL_joined_96 : decode cL_joined 96 = .ok (.invokevirtual 97, 3) := by decide +kernel
theorem dL_joined_99 : decode cL_joined 99 = .ok (.iaload, 1) := by decide +kernel
theorem dL_joined_100 : decode cL_joined 100 = .ok (.aload_n 1, 1) := by decide +kernel
theorem dL_joined_101 : decode cL_joined 101 = .ok (.iload_n 2, 1) := by decide +kernel
theorem dL_joined_102 : decode cL_joined 102 = .ok (.iaload, 1) := by decide +kernel
theorem dL_joined_103 : decode cL_joined 103 = .ok (.if_icmp .ge 7, 3) := by decide +kernel
theorem dL_joined_106 : decode cL_joined 106 = .ok (.iconst 1, 1) := by decide +kernel
theorem dL_joined_107 : decode cL_joined 107 = .ok (.goto 4, 3) := by decide +kernel
theorem dL_joined_110 : decode cL_joined 110 = .ok (.iconst 0, 1) := by decide +kernel
theorem dL_joined_111 : decode cL_joined 111 = .ok (.istore 6, 2) := by decide +kernel
theorem dL_joined_113 : decode cL_joined 113 = .ok (.iinc 7 1, 3) := by decide +kernel
theorem dL_joined_116 : decode cL_joined 116 = .ok (.goto (-43), 3) := by decide +kernel
theorem dL_joined_119 : decode cL_joined 119 = .ok (.iload 6, 2) := by decide +kernel
theorem dL_joined_121 : decode cL_joined 121 = .ok (.ireturn, 1) := by decide +kernel
