set_option maxRecDepth 20000 in
theorem gp_L_unlocks_c : GoodIn wsL_law [Cond.code yL_unlocks cL_unlocks 14 (some .boolean)] := goodIn_r _ [364] (by decide +kernel) (by decide +kernel)
set_option maxRecDepth 20000 in
theorem gp_wsL_unlocks_r1 : GoodIn wsL_law wsL_unlocks_r1 := goodIn_r _ [144, 342, 137, 138, 44, 139, 170, 171, 172, 2, 173, 10, 105, 106, 107, 50, 51, 108, 109, 110, 69, 70, 71, 72] (by decide +kernel) (by decide +kernel)
set_option maxRecDepth 20000 in
theorem gp_wsL_unlocks_r2 : GoodIn wsL_law wsL_unlocks_r2 := goodIn_r _ [73, 74, 75, 76, 77, 12, 325, 326, 327, 90, 91, 92, 93, 94, 101, 102, 103, 104, 52, 111, 112, 113, 114, 53] (by decide +kernel) (by decide +kernel)
set_option maxRecDepth 20000 in
theorem gp_wsL_unlocks_r3 : GoodIn wsL_law wsL_unlocks_r3 := goodIn_r _ [115, 116, 117, 118, 65, 66, 67, 18, 68, 28, 33, 145, 146, 147, 148, 149, 150, 151, 152, 153, 154, 155, 156, 157] (by decide +kernel) (by decide +kernel)
set_option maxRecDepth 20000 in
theorem gp_wsL_unlocks_r4 : GoodIn wsL_law wsL_unlocks_r4 := goodIn_r _ [13, 78, 79, 80, 81, 85, 86, 87, 88, 89, 95, 96, 97, 98, 99, 100, 158, 159, 160, 161, 162, 163, 164, 25] (by decide +kernel) (by decide +kernel)
set_option maxRecDepth 20000 in
theorem gp_wsL_unlocks_r5 : GoodIn wsL_law wsL_unlocks_r5 := goodIn_r _ [165, 41, 40, 46, 47, 48, 49, 54, 55, 56, 57, 29, 58, 59, 60, 61, 62, 63, 64, 174, 175, 176, 177, 178] (by decide +kernel) (by decide +kernel)
set_option maxRecDepth 20000 in
theorem gp_wsL_unlocks_r6 : GoodIn wsL_law wsL_unlocks_r6 := goodIn_r _ [179, 143, 180, 181, 182, 183, 184, 185, 186, 187, 188, 189, 190, 191, 192, 193, 194, 195, 196, 197, 198, 199, 200, 201] (by decide +kernel) (by decide +kernel)
set_option maxRecDepth 20000 in
theorem gp_wsL_unlocks_r7 : GoodIn wsL_law wsL_unlocks_r7 := goodIn_r _ [202, 203, 204, 205, 206, 207, 208, 209, 210, 211, 212, 213, 214, 215, 216, 217, 218, 219, 220, 221, 222, 223, 224, 225] (by decide +kernel) (by decide +kernel)
set_option maxRecDepth 20000 in
theorem gp_wsL_unlocks_r8 : GoodIn wsL_law wsL_unlocks_r8 := goodIn_r _ [226, 227, 228, 229, 123, 15, 230, 231, 232, 233, 234, 16, 235, 236, 237, 238, 239, 240, 241, 242, 243, 244, 245, 246] (by decide +kernel) (by decide +kernel)
set_option maxRecDepth 20000 in
theorem gp_wsL_unlocks_r9 : GoodIn wsL_law wsL_unlocks_r9 := goodIn_r _ [247, 248, 249, 250, 251, 14, 252, 253, 254, 255, 256, 257, 258, 259, 260, 261, 262, 263, 264, 265, 266, 267, 268, 269] (by decide +kernel) (by decide +kernel)
set_option maxRecDepth 20000 in
theorem gp_wsL_unlocks_r10 : GoodIn wsL_law wsL_unlocks_r10 := goodIn_r _ [270, 271, 272, 273, 274, 275, 276, 277, 278, 279, 280, 281, 282, 283, 284, 124, 125, 126, 127, 128, 129, 130, 131, 31] (by decide +kernel) (by decide +kernel)
set_option maxRecDepth 20000 in
theorem gp_wsL_unlocks_r11 : GoodIn wsL_law wsL_unlocks_r11 := goodIn_r _ [32, 285, 286, 287, 288, 289, 290, 291, 292, 293, 294, 295, 296, 297, 298, 299] (by decide +kernel) (by decide +kernel)
set_option maxRecDepth 20000 in
theorem gp_L_unlocks_wsX20 : GoodIn wsL_law wsX20 := goodIn_r _ [368, 369, 370, 371, 372, 373] (by decide +kernel) (by decide +kernel)
set_option maxRecDepth 20000 in
theorem gp_L_unlocks_wsX10 : GoodIn wsL_law wsX10 := goodIn_r _ [374, 375, 376, 377, 378, 379, 380, 381, 382, 383, 384] (by decide +kernel) (by decide +kernel)
set_option maxRecDepth 20000 in
theorem gp_L_unlocks_wsX00 : GoodIn wsL_law wsX00 := goodIn_r _ [385, 386] (by decide +kernel) (by decide +kernel)
theorem gb_L_unlocks : GoodIn wsL_law (Cond.code yL_unlocks cL_unlocks 14 (some .boolean) :: ((wsL_unlocks_r1 ++ (wsL_unlocks_r2 ++ (wsL_unlocks_r3 ++ (wsL_unlocks_r4 ++ (wsL_unlocks_r5 ++ (wsL_unlocks_r6 ++ (wsL_unlocks_r7 ++ (wsL_unlocks_r8 ++ (wsL_unlocks_r9 ++ (wsL_unlocks_r10 ++ wsL_unlocks_r11)))))))))) ++ wsX20 ++ wsX10 ++ wsX00)) := goodIn_app gp_L_unlocks_c (goodIn_app (goodIn_app (goodIn_app (goodIn_app gp_wsL_unlocks_r1 (goodIn_app gp_wsL_unlocks_r2 (goodIn_app gp_wsL_unlocks_r3 (goodIn_app gp_wsL_unlocks_r4 (goodIn_app gp_wsL_unlocks_r5 (goodIn_app gp_wsL_unlocks_r6 (goodIn_app gp_wsL_unlocks_r7 (goodIn_app gp_wsL_unlocks_r8 (goodIn_app gp_wsL_unlocks_r9 (goodIn_app gp_wsL_unlocks_r10 gp_wsL_unlocks_r11)))))))))) gp_L_unlocks_wsX20) gp_L_unlocks_wsX10) gp_L_unlocks_wsX00)
theorem ggL_law_L_unlocks : GoodIn wsL_law wsL_unlocks := goodIn_ca (goodIn_ca (goodIn_ca (gb_L_unlocks) (goodIn_sub (fun _ h => List.mem_append_left _ (List.mem_append_left _ (List.mem_append_right _ h))) (by decide +kernel))) (goodIn_sub (fun _ h => List.mem_append_left _ (List.mem_append_right _ h)) (by decide +kernel))) (goodIn_sub (fun _ h => List.mem_append_right _ h) (by decide +kernel))
theorem gL_law_L_unlocks : GoodIn wsL_law (va_wsS RL 182 yL_unlocks wsL_unlocks) := goodIn_app (goodIn_of _ (by decide +kernel)) ggL_law_L_unlocks
