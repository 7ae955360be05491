theorem dL_law_0 : decode cL_law 0 = .ok (.new 10, 3) := by decide +kernel
theorem dL_law_3 : decode cL_law 3 = .ok (.dup, 1) := by decide +kernel
theorem dL_law_4 : decode cL_law 4 = .ok (.invokespecial 160, 3) := by decide +kernel
theorem dL_law_7 : decode cL_law 7 = .ok (.astore_n 1, 1) := by decide +kernel
theorem dL_law_8 : decode cL_law 8 = .ok (.bipush 16, 2) := by decide +kernel
theorem dL_law_10 : decode cL_law 10 = .ok (.newarray .int, 2) := by decide +kernel
theorem dL_law_12 : decode cL_law 12 = .ok (.astore_n 2, 1) := by decide +kernel
theorem dL_law_13 : decode cL_law 13 = .ok (.aload_n 1, 1) := by decide +kernel
theorem dL_law_14 : decode cL_law 14 = .ok (.aload_n 2, 1) := by decide +kernel
theorem dL_law_15 : decode cL_law 15 = .ok (.invokestatic 161, 3) := by decide +kernel
theorem dL_law_18 : decode cL_law 18 = .ok (.istore_n 3, 1) := by decide +kernel
theorem dL_law_19 : decode cL_law 19 = .ok (.iconst 0, 1) := by decide +kernel
theorem dL_law_20 : decode cL_law 20 = .ok (.istore 4, 2) := by decide +kernel
theorem dL_law_22 : decode cL_law 22 = .ok (.iload 4, 2) := by decide +kernel
theorem dL_law_24 : decode cL_law 24 = .ok (.bipush 56, 2) := by decide +kernel
theorem dL_law_26 : decode cL_law 26 = .ok (.if_icmp .ge 240, 3) := by decide +kernel
theorem dL_law_29 : decode cL_law 29 = .ok (.iload_n 3, 1) := by decide +kernel
theorem dL_law_30 : decode cL_law 30 = .ok (.ifCond .eq 236, 3) := by decide +kernel
theorem dL_law_33 : decode cL_law 33 = .ok (.aload_n 0, 1) := by decide +kernel
theorem dL_law_34 : decode cL_law 34 = .ok (.iconst 2, 1) := by decide +kernel
theorem dL_law_35 : decode cL_law 35 = .ok (.iload 4, 2) := by decide +kernel
theorem dL_law_37 : decode cL_law 37 = .ok (.imul, 1) := by decide +kernel
theorem dL_law_38 : decode cL_law 38 = .ok (.invokestatic 165, 3) := by decide +kernel
theorem dL_law_41 : decode cL_law 41 = .ok (.istore 5, 2) := by decide +kernel
theorem dL_law_43 : decode cL_law 43 = .ok (.aload_n 0, 1) := by decide +kernel
theorem dL_law_44 : decode cL_law 44 = .ok (.iconst 2, 1) := by decide +kernel
theorem dL_law_45 : decode cL_law 45 = .ok (.iload 4, 2) := by decide +kernel
theorem dL_law_47 : decode cL_law 47 = .ok (.imul, 1) := by decide +kernel
theorem dL_law_48 : decode cL_law 48 = .ok (.iconst 1, 1) := by decide +kernel
theorem dL_law_49 : decode cL_law 49 = .ok (.iadd, 1) := by decide +kernel
theorem dL_law_50 : decode cL_law 50 = .ok (.invokestatic 165, 3) := by decide +kernel
theorem dL_law_53 : decode cL_law 53 = .ok (.istore 6, 2) := by decide +kernel
theorem dL_law_55 : decode cL_law 55 = .ok (.iconst 0, 1) := by decide +kernel
theorem dL_law_56 : decode cL_law 56 = .ok (.istore 7, 2) := by decide +kernel
theorem dL_law_58 : decode cL_law 58 = .ok (.iload 7, 2) := by decide +kernel
theorem dL_law_60 : decode cL_law 60 = .ok (.iconst 2, 1) := by decide +kernel
theorem dL_law_61 : decode cL_law 61 = .ok (.if_icmp .ge 174, 3) := by decide +kernel
theorem dL_law_64 : decode cL_law 64 = .ok (.iload_n 3, 1) := by decide +kernel
theorem dL_law_65 : decode cL_law 65 = .ok (.ifCond .eq 170, 3) := by decide +kernel
theorem dL_law_68 : decode cL_law 68 = .ok (.iload 7, 2) := by decide +kernel
theorem dL_law_70 : decode cL_law 70 = .ok (.ifCond .ne 8, 3) := by decide +kernel
theorem dL_law_73 : decode cL_law 73 = .ok (.iload 5, 2) := by decide +kernel
theorem dL_law_75 : decode cL_law 75 = .ok (.goto 8, 3) := by decide +kernel
theorem dL_law_78 : decode cL_law 78 = .ok (.iload 6, 2) := by decide +kernel
theorem dL_law_80 : decode cL_law 80 = .ok (.bipush 6, 2) := by decide +kernel
theorem dL_law_82 : decode cL_law 82 = .ok (.ishr, 1) := by decide +kernel
theorem dL_law_83 : decode cL_law 83 = .ok (.bipush 20, 2) := by decide +kernel
theorem dL_law_85 : decode cL_law 85 = .ok (.invokestatic 121, 3) := by decide +kernel
theorem dL_law_88 : decode cL_law 88 = .ok (.istore 8, 2) := by decide +kernel
theorem dL_law_90 : decode cL_law 90 = .ok (.iload 7, 2) := by decide +kernel
theorem dL_law_92 : decode cL_law 92 = .ok (.ifCond .ne 8, 3) := by decide +kernel
theorem dL_law_95 : decode cL_law 95 = .ok (.iload 6, 2) := by decide +kernel
theorem dL_law_97 : decode cL_law 97 = .ok (.goto 7, 3) := by decide +kernel
theorem dL_law_100 : decode cL_law 100 = .ok (.iload 5, 2) := by decide +kernel
theorem dL_law_102 : decode cL_law 102 = .ok (.iconst 4, 1) := by decide +kernel
theorem dL_law_103 : decode cL_law 103 = .ok (.ishr, 1) := by decide +kernel
theorem dL_law_104 : decode cL_law 104 = .ok (.istore 9, 2) := by decide +kernel
theorem dL_law_106 : decode cL_law 106 = .ok (.iload 5, 2) := by decide +kernel
theorem dL_law_108 : decode cL_law 108 = .ok (.bipush 10, 2) := by decide +kernel
theorem dL_law_110 : decode cL_law 110 = .ok (.iload 7, 2) := by decide +kernel
theorem dL_law_112 : decode cL_law 112 = .ok (.iadd, 1) := by decide +kernel
theorem dL_law_113 : decode cL_law 113 = .ok (.ishr, 1) := by decide +kernel
theorem dL_law_114 : decode cL_law 114 = .ok (.bipush 12, 2) := by decide +kernel
theorem dL_law_116 : decode cL_law 116 = .ok (.invokestatic 121, 3) := by decide +kernel
theorem dL_law_119 : decode cL_law 119 = .ok (.ifCond .ne 7, 3) := by decide +kernel
theorem dL_law_122 : decode cL_law 122 = .ok (.iconst 1, 1) := by decide +kernel
theorem dL_law_123 : decode cL_law 123 = .ok (.goto 4, 3) := by decide +kernel
theorem dL_law_126 : decode cL_law 126 = .ok (.iconst 0, 1) := by decide +kernel
theorem dL_law_127 : decode cL_law 127 = .ok (.istore 10, 2) := by decide +kernel
theorem dL_law_129 : decode cL_law 129 = .ok (.iload 8, 2) := by decide +kernel
theorem dL_law_131 : decode cL_law 131 = .ok (.iconst 2, 1) := by decide +kernel
theorem dL_law_132 : decode cL_law 132 = .ok (.if_icmp .ge 14, 3) := by decide +kernel
theorem dL_law_135 : decode cL_law 135 = .ok (.aload_n 1, 1) := by decide +kernel
theorem dL_law_136 : decode cL_law 136 = .ok (.iload 9, 2) := by decide +kernel
theorem dL_law_138 : decode cL_law 138 = .ok (.iload 10, 2) := by decide +kernel
theorem dL_law_140 : decode cL_law 140 = .ok (.invokestatic 169, 3) := by decide +kernel
theorem dL_law_143 : decode cL_law 143 = .ok (.goto 85, 3) := by decide +kernel
theorem dL_law_146 : decode cL_law 146 = .ok (.iload 8, 2) := by decide +kernel
theorem dL_law_148 : decode cL_law 148 = .ok (.bipush 6, 2) := by decide +kernel
theorem dL_law_150 : decode cL_law 150 = .ok (.if_icmp .ge 15, 3) := by decide +kernel
theorem dL_law_153 : decode cL_law 153 = .ok (.aload_n 1, 1) := by decide +kernel
theorem dL_law_154 : decode cL_law 154 = .ok (.aload_n 2, 1) := by decide +kernel
theorem dL_law_155 : decode cL_law 155 = .ok (.iload 9, 2) := by decide +kernel
theorem dL_law_157 : decode cL_law 157 = .ok (.iload 10, 2) := by decide +kernel
theorem dL_law_159 : decode cL_law 159 = .ok (.invokestatic 173, 3) := by decide +kernel
theorem dL_law_162 : decode cL_law 162 = .ok (.goto 66, 3) := by decide +kernel
theorem dL_law_165 : decode cL_law 165 = .ok (.iload 8, 2) := by decide +kernel
theorem dL_law_167 : decode cL_law 167 = .ok (.bipush 9, 2) := by decide +kernel
theorem dL_law_169 : decode cL_law 169 = .ok (.if_icmp .ge 15, 3) := by decide +kernel
theorem dL_law_172 : decode cL_law 172 = .ok (.aload_n 1, 1) := by decide +kernel
theorem dL_law_173 : decode cL_law 173 = .ok (.aload_n 2, 1) := by decide +kernel
theorem dL_law_174 : decode cL_law 174 = .ok (.iload 9, 2) := by decide +kernel
theorem dL_law_176 : decode cL_law 176 = .ok (.iload 10, 2) := by decide +kernel
theorem dL_law_178 : decode cL_law 178 = .ok (.invokestatic 177, 3) := by decide +kernel
theorem dL_law_181 : decode cL_law 181 = .ok (.goto 47, 3) := by decide +kernel
theorem dL_law_184 : decode cL_law 184 = .ok (.iload 8, 2) := by decide +kernel
theorem dL_law_186 : decode cL_law 186 = .ok (.bipush 13, 2) := by decide +kernel
theorem dL_law_188 : decode cL_law 188 = .ok (.if_icmp .ge 15, 3) := by decide +kernel
theorem dL_law_191 : decode cL_law 191 = .ok (.aload_n 1, 1) := by decide +kernel
theorem dL_law_192 : decode cL_law 192 = .ok (.aload_n 2, 1) := by decide +kernel
theorem dL_law_193 : decode cL_law 193 = .ok (.iload 9, 2) := by decide +kernel
theorem dL_law_195 : decode cL_law 195 = .ok (.iload 10, 2) := by decide +kernel
theorem dL_law_197 : decode cL_law 197 = .ok (.invokestatic 180, 3) := by decide +kernel
theorem dL_law_200 : decode cL_law 200 = .ok (.goto 28, 3) := by decide +kernel
theorem dL_law_203 : decode cL_law 203 = .ok (.iload 8, 2) := by decide +kernel
theorem dL_law_205 : decode cL_law 205 = .ok (.bipush 15, 2) := by decide +kernel
theorem dL_law_207 : decode cL_law 207 = .ok (.if_icmp .ge 12, 3) := by decide +kernel
theorem dL_law_210 : decode cL_law 210 = .ok (.aload_n 1, 1) := by decide +kernel
theorem dL_law_211 : decode cL_law 211 = .ok (.iload 9, 2) := by decide +kernel
theorem dL_law_213 : decode cL_law 213 = .ok (.invokestatic 182, 3) := by decide +kernel
theorem dL_law_216 : decode cL_law 216 = .ok (.goto 12, 3) := by decide +kernel
theorem dL_law_219 : decode cL_law 219 = .ok (.aload_n 1, 1) := by decide +kernel
theorem dL_law_220 : decode cL_law 220 = .ok (.aload_n 2, 1) := by decide +kernel
theorem dL_law_221 : decode cL_law 221 = .ok (.iload 9, 2) := by decide +kernel
theorem dL_law_223 : decode cL_law 223 = .ok (.iload 10, 2) := by decide +kernel
theorem dL_law_225 : decode cL_law 225 = .ok (.invokestatic 186, 3) := by decide +kernel
theorem dL_law_228 : decode cL_law 228 = .ok (.istore_n 3, 1) := by decide +kernel
theorem dL_law_229 : decode cL_law 229 = .ok (.iinc 7 1, 3) := by decide +kernel
theorem dL_law_232 : decode cL_law 232 = .ok (.goto (-174), 3) := by decide +kernel
theorem dL_law_235 : decode cL_law 235 = .ok (.iload_n 3, 1) := by decide +kernel
theorem dL_law_236 : decode cL_law 236 = .ok (.ifCond .eq 22, 3) := by decide +kernel
theorem dL_law_239 : decode cL_law 239 = .ok (.iload 4, 2) := by decide +kernel
theorem dL_law_241 : decode cL_law 241 = .ok (.iconst 3, 1) := by decide +kernel
theorem dL_law_242 : decode cL_law 242 = .ok (.irem, 1) := by decide +kernel
theorem dL_law_243 : decode cL_law 243 = .ok (.ifCond .gt 11, 3) := by decide +kernel
theorem dL_law_246 : decode cL_law 246 = .ok (.aload_n 1, 1) := by decide +kernel
theorem dL_law_247 : decode cL_law 247 = .ok (.aload_n 2, 1) := by decide +kernel
theorem dL_law_248 : decode cL_law 248 = .ok (.invokestatic 161, 3) := by decide +kernel
theorem dL_law_251 : decode cL_law 251 = .ok (.ifCond .eq 7, 3) := by decide +kernel
theorem dL_law_254 : decode cL_law 254 = .ok (.iconst 1, 1) := by decide +kernel
theorem dL_law_255 : decode cL_law 255 = .ok (.goto 4, 3) := by decide +kernel
theorem dL_law_258 : decode cL_law 258 = .ok (.iconst 0, 1) := by decide +kernel
theorem dL_law_259 : decode cL_law 259 = .ok (.istore_n 3, 1) := by decide +kernel
theorem dL_law_260 : decode cL_law 260 = .ok (.iinc 4 1, 3) := by decide +kernel
theorem dL_law_263 : decode cL_law 263 = .ok (.goto (-241), 3) := by decide +kernel
theorem dL_law_266 : decode cL_law 266 = .ok (.iload_n 3, 1) := by decide +kernel
theorem dL_law_267 : decode cL_law 267 = .ok (.ifCond .eq 15, 3) := by decide +kernel
theorem dL_law_270 : decode cL_law 270 = .ok (.aload_n 1, 1) := by decide +kernel
theorem dL_law_271 : decode cL_law 271 = .ok (.aload_n 2, 1) := by decide +kernel
theorem dL_law_272 : decode cL_law 272 = .ok (.invokestatic 161, 3) := by decide +kernel
theorem dL_law_275 : decode cL_law 275 = .ok (.ifCond .eq 7, 3) := by decide +kernel
theorem dL_law_278 : decode cL_law 278 = .ok (.iconst 1, 1) := by decide +kernel
theorem dL_law_279 : decode cL_law 279 = .ok (.goto 4, 3) := by decide +kernel
theorem dL_law_282 : decode cL_law 282 = .ok (.iconst 0, 1) := by decide +kernel
theorem dL_law_283 : decode cL_law 283 = .ok (.ireturn, 1) := by decide +kernel
