set_option maxRecDepth 20000 in
theorem gp_L_wakes_c : GoodIn wsL_law [Cond.code yL_wakes cL_wakes 29 (some .boolean)] := goodIn_r _ [323] (by decide +kernel) (by decide +kernel)
set_option maxRecDepth 20000 in
theorem gp_wsL_wakes_r1 : GoodIn wsL_law wsL_wakes_r1 := goodIn_r _ [143, 180, 144, 324, 137, 138, 44, 139, 325, 326, 327, 90, 91, 92, 2, 93, 94, 74, 75, 76, 77, 50, 51, 12] (by decide +kernel) (by decide +kernel)
set_option maxRecDepth 20000 in
theorem gp_wsL_wakes_r2 : GoodIn wsL_law wsL_wakes_r2 := goodIn_r _ [101, 102, 103, 104, 52, 105, 106, 107, 108, 109, 110, 111, 112, 113, 114, 53, 115, 116, 117, 118, 65, 66, 67, 18] (by decide +kernel) (by decide +kernel)
set_option maxRecDepth 20000 in
theorem gp_wsL_wakes_r3 : GoodIn wsL_law wsL_wakes_r3 := goodIn_r _ [68, 28, 33, 69, 70, 71, 72, 73, 145, 146, 147, 148, 149, 150, 151, 152, 153, 154, 155, 156, 157, 13, 78, 79] (by decide +kernel) (by decide +kernel)
set_option maxRecDepth 20000 in
theorem gp_wsL_wakes_r4 : GoodIn wsL_law wsL_wakes_r4 := goodIn_r _ [80, 81, 85, 86, 87, 88, 89, 95, 96, 97, 98, 99, 100, 158, 159, 160, 161, 162, 163, 164, 25, 165, 41, 40] (by decide +kernel) (by decide +kernel)
set_option maxRecDepth 20000 in
theorem gp_wsL_wakes_r5 : GoodIn wsL_law wsL_wakes_r5 := goodIn_r _ [46, 47, 48, 49, 54, 55, 56, 57, 29, 58, 59, 60, 61, 62, 63, 64, 170, 171, 172, 173, 10, 328, 329, 330] (by decide +kernel) (by decide +kernel)
set_option maxRecDepth 20000 in
theorem gp_wsL_wakes_r6 : GoodIn wsL_law wsL_wakes_r6 := goodIn_r _ [177, 178, 179, 331, 332, 333, 334, 190, 191, 187, 188, 189, 192, 193, 194, 195, 196, 261, 262, 263, 264, 205, 206, 207] (by decide +kernel) (by decide +kernel)
set_option maxRecDepth 20000 in
theorem gp_wsL_wakes_r7 : GoodIn wsL_law wsL_wakes_r7 := goodIn_r _ [208, 209, 248, 249, 250, 251, 14, 252, 253, 254, 255, 123, 256, 201, 202, 203, 204, 335, 336, 337, 338, 231, 232, 233] (by decide +kernel) (by decide +kernel)
set_option maxRecDepth 20000 in
theorem gp_wsL_wakes_r8 : GoodIn wsL_law wsL_wakes_r8 := goodIn_r _ [234, 16, 235, 174, 175, 176, 181, 182, 183, 184, 185, 186, 197, 198, 199, 200, 210, 211, 212, 213, 214, 215, 216, 217] (by decide +kernel) (by decide +kernel)
set_option maxRecDepth 20000 in
theorem gp_wsL_wakes_r9 : GoodIn wsL_law wsL_wakes_r9 := goodIn_r _ [218, 219, 220, 221, 222, 223, 224, 225, 226, 227, 228, 229, 15, 230, 236, 237, 238, 239, 240, 241, 242, 243, 244, 245] (by decide +kernel) (by decide +kernel)
set_option maxRecDepth 20000 in
theorem gp_wsL_wakes_r10 : GoodIn wsL_law wsL_wakes_r10 := goodIn_r _ [246, 247, 257, 258, 259, 260, 265, 266, 267, 268, 269, 270, 271, 272, 273, 274, 275, 276, 277, 278, 279, 280, 281, 282] (by decide +kernel) (by decide +kernel)
set_option maxRecDepth 20000 in
theorem gp_wsL_wakes_r11 : GoodIn wsL_law wsL_wakes_r11 := goodIn_r _ [283, 284, 124, 125, 126, 127, 128, 129, 130, 131, 31, 32, 285, 286, 287, 288, 289, 290, 291, 292, 293, 294, 295, 296] (by decide +kernel) (by decide +kernel)
set_option maxRecDepth 20000 in
theorem gp_wsL_wakes_r12 : GoodIn wsL_law wsL_wakes_r12 := goodIn_r _ [297, 298, 299, 318, 319, 320, 82, 83, 84] (by decide +kernel) (by decide +kernel)
set_option maxRecDepth 20000 in
theorem gp_L_wakes_wsX10 : GoodIn wsL_law wsX10 := goodIn_r _ [374, 375, 376, 377, 378, 379, 380, 381, 382, 383, 384] (by decide +kernel) (by decide +kernel)
set_option maxRecDepth 20000 in
theorem gp_L_wakes_wsX20 : GoodIn wsL_law wsX20 := goodIn_r _ [368, 369, 370, 371, 372, 373] (by decide +kernel) (by decide +kernel)
set_option maxRecDepth 20000 in
theorem gp_L_wakes_wsX00 : GoodIn wsL_law wsX00 := goodIn_r _ [385, 386] (by decide +kernel) (by decide +kernel)
theorem gb_L_wakes : GoodIn wsL_law (Cond.code yL_wakes cL_wakes 29 (some .boolean) :: ((wsL_wakes_r1 ++ (wsL_wakes_r2 ++ (wsL_wakes_r3 ++ (wsL_wakes_r4 ++ (wsL_wakes_r5 ++ (wsL_wakes_r6 ++ (wsL_wakes_r7 ++ (wsL_wakes_r8 ++ (wsL_wakes_r9 ++ (wsL_wakes_r10 ++ (wsL_wakes_r11 ++ wsL_wakes_r12))))))))))) ++ wsX10 ++ wsX20 ++ wsX00)) := goodIn_app gp_L_wakes_c (goodIn_app (goodIn_app (goodIn_app (goodIn_app gp_wsL_wakes_r1 (goodIn_app gp_wsL_wakes_r2 (goodIn_app gp_wsL_wakes_r3 (goodIn_app gp_wsL_wakes_r4 (goodIn_app gp_wsL_wakes_r5 (goodIn_app gp_wsL_wakes_r6 (goodIn_app gp_wsL_wakes_r7 (goodIn_app gp_wsL_wakes_r8 (goodIn_app gp_wsL_wakes_r9 (goodIn_app gp_wsL_wakes_r10 (goodIn_app gp_wsL_wakes_r11 gp_wsL_wakes_r12))))))))))) gp_L_wakes_wsX10) gp_L_wakes_wsX20) gp_L_wakes_wsX00)
theorem ggL_law_L_wakes : GoodIn wsL_law wsL_wakes := goodIn_ca (goodIn_ca (goodIn_ca (gb_L_wakes) (goodIn_sub (fun _ h => List.mem_append_left _ (List.mem_append_left _ (List.mem_append_right _ h))) (by decide +kernel))) (goodIn_sub (fun _ h => List.mem_append_left _ (List.mem_append_right _ h)) (by decide +kernel))) (goodIn_sub (fun _ h => List.mem_append_right _ h) (by decide +kernel))
theorem gL_law_L_wakes : GoodIn wsL_law (va_wsS RL 177 yL_wakes wsL_wakes) := goodIn_app (goodIn_of _ (by decide +kernel)) ggL_law_L_wakes
