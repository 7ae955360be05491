set_option maxRecDepth 20000 in
theorem gp_L_waits_c : GoodIn wsL_law [Cond.code yL_waits cL_waits 21 (some .boolean)] := goodIn_r _ [310] (by decide +kernel) (by decide +kernel)
set_option maxRecDepth 20000 in
theorem gp_wsL_waits_r1 : GoodIn wsL_law wsL_waits_r1 := goodIn_r _ [143, 180, 144, 137, 138, 44, 139, 170, 171, 172, 2, 173, 10, 105, 106, 107, 50, 51, 108, 109, 110, 69, 70, 71] (by decide +kernel) (by decide +kernel)
set_option maxRecDepth 20000 in
theorem gp_wsL_waits_r2 : GoodIn wsL_law wsL_waits_r2 := goodIn_r _ [72, 73, 74, 75, 76, 77, 12, 119, 120, 121, 122, 123, 13, 124, 125, 126, 127, 128, 129, 130, 18, 131, 31, 32] (by decide +kernel) (by decide +kernel)
set_option maxRecDepth 20000 in
theorem gp_wsL_waits_r3 : GoodIn wsL_law wsL_waits_r3 := goodIn_r _ [85, 86, 87, 88, 89, 145, 146, 147, 148, 149, 150, 151, 152, 153, 154, 155, 156, 157, 78, 79, 80, 81, 52, 90] (by decide +kernel) (by decide +kernel)
set_option maxRecDepth 20000 in
theorem gp_wsL_waits_r4 : GoodIn wsL_law wsL_waits_r4 := goodIn_r _ [91, 92, 93, 94, 95, 96, 97, 98, 99, 100, 158, 159, 160, 161, 162, 163, 164, 25, 165, 41, 40, 46, 47, 48] (by decide +kernel) (by decide +kernel)
set_option maxRecDepth 20000 in
theorem gp_wsL_waits_r5 : GoodIn wsL_law wsL_waits_r5 := goodIn_r _ [49, 53, 54, 55, 56, 57, 29, 58, 59, 60, 61, 62, 63, 64, 65, 66, 67, 68, 28, 33, 166, 167, 168, 169] (by decide +kernel) (by decide +kernel)
set_option maxRecDepth 20000 in
theorem gp_wsL_waits_r6 : GoodIn wsL_law wsL_waits_r6 := goodIn_r _ [311, 312, 313, 177, 178, 179, 314, 315, 316, 317, 187, 188, 189, 190, 191, 192, 193, 194, 195, 196, 226, 227, 228, 229] (by decide +kernel) (by decide +kernel)
set_option maxRecDepth 20000 in
theorem gp_wsL_waits_r7 : GoodIn wsL_law wsL_waits_r7 := goodIn_r _ [209, 15, 230, 231, 232, 233, 234, 16, 235, 318, 319, 320, 82, 83, 84] (by decide +kernel) (by decide +kernel)
set_option maxRecDepth 20000 in
theorem gp_L_waits_wsX20 : GoodIn wsL_law wsX20 := goodIn_r _ [368, 369, 370, 371, 372, 373] (by decide +kernel) (by decide +kernel)
set_option maxRecDepth 20000 in
theorem gp_L_waits_wsX10 : GoodIn wsL_law wsX10 := goodIn_r _ [374, 375, 376, 377, 378, 379, 380, 381, 382, 383, 384] (by decide +kernel) (by decide +kernel)
set_option maxRecDepth 20000 in
theorem gp_L_waits_wsX00 : GoodIn wsL_law wsX00 := goodIn_r _ [385, 386] (by decide +kernel) (by decide +kernel)
theorem gb_L_waits : GoodIn wsL_law (Cond.code yL_waits cL_waits 21 (some .boolean) :: ((wsL_waits_r1 ++ (wsL_waits_r2 ++ (wsL_waits_r3 ++ (wsL_waits_r4 ++ (wsL_waits_r5 ++ (wsL_waits_r6 ++ wsL_waits_r7)))))) ++ wsX20 ++ wsX10 ++ wsX00)) := goodIn_app gp_L_waits_c (goodIn_app (goodIn_app (goodIn_app (goodIn_app gp_wsL_waits_r1 (goodIn_app gp_wsL_waits_r2 (goodIn_app gp_wsL_waits_r3 (goodIn_app gp_wsL_waits_r4 (goodIn_app gp_wsL_waits_r5 (goodIn_app gp_wsL_waits_r6 gp_wsL_waits_r7)))))) gp_L_waits_wsX20) gp_L_waits_wsX10) gp_L_waits_wsX00)
theorem ggL_law_L_waits : GoodIn wsL_law wsL_waits := goodIn_ca (goodIn_ca (goodIn_ca (gb_L_waits) (goodIn_sub (fun _ h => List.mem_append_left _ (List.mem_append_left _ (List.mem_append_right _ h))) (by decide +kernel))) (goodIn_sub (fun _ h => List.mem_append_left _ (List.mem_append_right _ h)) (by decide +kernel))) (goodIn_sub (fun _ h => List.mem_append_right _ h) (by decide +kernel))
theorem gL_law_L_waits : GoodIn wsL_law (va_wsS RL 173 yL_waits wsL_waits) := goodIn_app (goodIn_of _ (by decide +kernel)) ggL_law_L_waits
