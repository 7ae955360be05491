set_option maxRecDepth 20000 in
theorem ggL_law_X2_init : GoodIn wsL_law wsX2_init := goodIn_r _ [9, 10, 11, 12, 13, 14, 15, 16, 17, 18, 19, 20, 21, 22, 23, 24, 25, 26, 27, 28, 29, 30, 31, 32, 33, 34, 35, 36, 37, 38, 39, 40, 41, 42, 43, 44, 45, 611, 612, 613, 614, 615, 616, 634, 635, 636, 637, 638, 639, 640, 641, 642, 643, 644, 645, 646] (by decide +kernel) (by decide +kernel)
set_option maxRecDepth 20000 in
theorem gL_law_X2_init : GoodIn wsL_law (wsX2_init) := ggL_law_X2_init
set_option maxRecDepth 20000 in
theorem ggL_law_X3_init : GoodIn wsL_law wsX3_init := goodIn_r _ [48, 49, 11, 12, 13, 50, 51, 52, 53, 54, 55, 56, 57, 58, 59, 60, 61, 617, 618, 619, 620, 621, 622, 623, 624, 625, 626, 627, 628, 629, 630, 631, 632, 633] (by decide +kernel) (by decide +kernel)
set_option maxRecDepth 20000 in
theorem gL_law_X3_init : GoodIn wsL_law (wsX3_init) := ggL_law_X3_init
set_option maxRecDepth 20000 in
theorem ggL_law_L_store : GoodIn wsL_law wsL_store := goodIn_ca (goodIn_ca (goodIn_r _ [65, 66, 67, 68, 69, 70, 2, 71, 14, 72, 73, 74, 75, 76, 77, 16, 78, 79, 80, 81, 82, 83, 84, 85, 86, 87, 88, 89, 611, 612, 613, 614, 615, 616, 634, 635, 636, 637, 638, 639, 640, 641, 642, 643, 644] (by decide +kernel) (by decide +kernel)) (goodIn_sub (fun _ h => List.mem_append_left _ (List.mem_append_left _ (List.mem_append_right _ h))) (by decide +kernel))) (goodIn_sub (fun _ h => List.mem_append_left _ (List.mem_append_right _ h)) (by decide +kernel))
set_option maxRecDepth 20000 in
theorem gL_law_L_store : GoodIn wsL_law (va_wsS RL 99 yL_store wsL_store) := goodIn_app (goodIn_of _ (by decide +kernel)) ggL_law_L_store
set_option maxRecDepth 20000 in
theorem ggL_law_X3_store : GoodIn wsL_law wsX3_store := goodIn_r _ [93, 50, 94, 95, 96, 5, 97, 51, 98, 99, 100, 101, 102, 103, 104, 617, 618, 619, 620, 621, 622, 623, 624, 625, 626, 627, 628, 629, 630, 631, 632, 633] (by decide +kernel) (by decide +kernel)
set_option maxRecDepth 20000 in
theorem gL_law_X3_store : GoodIn wsL_law (wsV RL 104 RX3 yX3_store wsX3_store) := goodIn_app (goodIn_of _ (by decide +kernel)) ggL_law_X3_store
set_option maxRecDepth 20000 in
theorem ggL_law_X3_thrown : GoodIn wsL_law wsX3_thrown := goodIn_r _ [108, 98, 617, 618, 619, 620, 621, 622, 623, 624, 625, 626, 627, 628, 629, 630, 631, 632, 633] (by decide +kernel) (by decide +kernel)
set_option maxRecDepth 20000 in
theorem gL_law_X3_thrown : GoodIn wsL_law (wsV RL 105 RX3 yX3_thrown wsX3_thrown) := goodIn_app (goodIn_of _ (by decide +kernel)) ggL_law_X3_thrown
set_option maxRecDepth 20000 in
theorem ggL_law_L_compareAndSet : GoodIn wsL_law wsL_compareAndSet := goodIn_ca (goodIn_ca (goodIn_r _ [111, 66, 67, 112, 113, 114, 2, 115, 14, 72, 73, 74, 75, 76, 77, 16, 78, 79, 80, 81, 82, 83, 84, 85, 86, 87, 88, 89, 611, 612, 613, 614, 615, 616, 634, 635, 636, 637, 638, 639, 640, 641, 642, 643, 644] (by decide +kernel) (by decide +kernel)) (goodIn_sub (fun _ h => List.mem_append_left _ (List.mem_append_left _ (List.mem_append_right _ h))) (by decide +kernel))) (goodIn_sub (fun _ h => List.mem_append_left _ (List.mem_append_right _ h)) (by decide +kernel))
set_option maxRecDepth 20000 in
theorem gL_law_L_compareAndSet : GoodIn wsL_law (va_wsS RL 109 yL_compareAndSet wsL_compareAndSet) := goodIn_app (goodIn_of _ (by decide +kernel)) ggL_law_L_compareAndSet
set_option maxRecDepth 20000 in
theorem ggL_law_X3_compareAndSet : GoodIn wsL_law wsX3_compareAndSet := goodIn_r _ [119, 50, 94, 95, 96, 5, 97, 51, 98, 99, 100, 101, 102, 103, 104, 617, 618, 619, 620, 621, 622, 623, 624, 625, 626, 627, 628, 629, 630, 631, 632, 633] (by decide +kernel) (by decide +kernel)
set_option maxRecDepth 20000 in
theorem gL_law_X3_compareAndSet : GoodIn wsL_law (wsV RL 112 RX3 yX3_compareAndSet wsX3_compareAndSet) := goodIn_app (goodIn_of _ (by decide +kernel)) ggL_law_X3_compareAndSet
set_option maxRecDepth 20000 in
theorem ggL_law_L_fetchAdd : GoodIn wsL_law wsL_fetchAdd := goodIn_ca (goodIn_ca (goodIn_r _ [122, 66, 67, 123, 124, 125, 2, 126, 14, 72, 73, 74, 75, 76, 77, 16, 78, 79, 80, 81, 82, 83, 84, 85, 86, 87, 88, 89, 611, 612, 613, 614, 615, 616, 634, 635, 636, 637, 638, 639, 640, 641, 642, 643, 644] (by decide +kernel) (by decide +kernel)) (goodIn_sub (fun _ h => List.mem_append_left _ (List.mem_append_left _ (List.mem_append_right _ h))) (by decide +kernel))) (goodIn_sub (fun _ h => List.mem_append_left _ (List.mem_append_right _ h)) (by decide +kernel))
set_option maxRecDepth 20000 in
theorem gL_law_L_fetchAdd : GoodIn wsL_law (va_wsS RL 113 yL_fetchAdd wsL_fetchAdd) := goodIn_app (goodIn_of _ (by decide +kernel)) ggL_law_L_fetchAdd
set_option maxRecDepth 20000 in
theorem ggL_law_X3_fetchAdd : GoodIn wsL_law wsX3_fetchAdd := goodIn_r _ [130, 50, 94, 95, 96, 5, 97, 51, 98, 99, 100, 101, 102, 103, 104, 617, 618, 619, 620, 621, 622, 623, 624, 625, 626, 627, 628, 629, 630, 631, 632, 633] (by decide +kernel) (by decide +kernel)
set_option maxRecDepth 20000 in
theorem gL_law_X3_fetchAdd : GoodIn wsL_law (wsV RL 115 RX3 yX3_fetchAdd wsX3_fetchAdd) := goodIn_app (goodIn_of _ (by decide +kernel)) ggL_law_X3_fetchAdd
set_option maxRecDepth 20000 in
theorem ggL_law_L_word : GoodIn wsL_law wsL_word := goodIn_ca (goodIn_r _ [133, 66, 134, 135, 136, 2, 137, 14, 78, 79, 80, 76, 77, 81, 82, 83, 611, 612, 613, 614, 615, 616] (by decide +kernel) (by decide +kernel)) (goodIn_sub (fun _ h => List.mem_append_left _ (List.mem_append_left _ (List.mem_append_right _ h))) (by decide +kernel))
set_option maxRecDepth 20000 in
theorem gL_law_L_word : GoodIn wsL_law (va_wsS RL 116 yL_word wsL_word) := goodIn_app (goodIn_of _ (by decide +kernel)) ggL_law_L_word
set_option maxRecDepth 20000 in
theorem ggL_law_X3_word : GoodIn wsL_law wsX3_word := goodIn_r _ [141, 50, 102, 103, 5, 104, 142, 143, 144, 145, 98, 617, 618, 619, 620, 621, 622, 623, 624, 625, 626, 627, 628, 629, 630, 631, 632, 633] (by decide +kernel) (by decide +kernel)
set_option maxRecDepth 20000 in
theorem gL_law_X3_word : GoodIn wsL_law (wsV RL 119 RX3 yX3_word wsX3_word) := goodIn_app (goodIn_of _ (by decide +kernel)) ggL_law_X3_word
set_option maxRecDepth 20000 in
theorem ggL_law_L_await : GoodIn wsL_law wsL_await := goodIn_ca (goodIn_ca (goodIn_ca (goodIn_r _ [148, 66, 149, 67, 150, 151, 152, 2, 153, 14, 72, 73, 74, 75, 76, 77, 16, 78, 79, 80, 81, 82, 83, 154, 155, 156, 157, 158, 84, 85, 86, 87, 88, 89, 159, 160, 161, 162, 163, 17, 164, 19, 165, 166, 167, 168, 169, 170, 20, 171, 611, 612, 613, 614, 615, 616, 634, 635, 636, 637, 638, 639, 640, 641, 642, 643, 644] (by decide +kernel) (by decide +kernel)) (goodIn_sub (fun _ h => List.mem_append_left _ (List.mem_append_left _ (List.mem_append_right _ h))) (by decide +kernel))) (goodIn_sub (fun _ h => List.mem_append_right _ h) (by decide +kernel))) (goodIn_sub (fun _ h => List.mem_append_left _ (List.mem_append_right _ h)) (by decide +kernel))
set_option maxRecDepth 20000 in
theorem gL_law_L_await : GoodIn wsL_law (va_wsS RL 120 yL_await wsL_await) := goodIn_app (goodIn_of _ (by decide +kernel)) ggL_law_L_await
set_option maxRecDepth 20000 in
theorem ggL_law_X3_await : GoodIn wsL_law wsX3_await := goodIn_r _ [175, 50, 176, 177, 5, 178, 179, 180, 181, 94, 95, 96, 97, 51, 98, 99, 100, 101, 102, 103, 104, 182, 183, 184, 185, 56, 57, 186, 187, 58, 188, 189, 190, 191, 55, 192, 59, 617, 618, 619, 620, 621, 622, 623, 624, 625, 626, 627, 628, 629, 630, 631, 632, 633] (by decide +kernel) (by decide +kernel)
set_option maxRecDepth 20000 in
theorem gL_law_X3_await : GoodIn wsL_law (wsV RL 123 RX3 yX3_await wsX3_await) := goodIn_app (goodIn_of _ (by decide +kernel)) ggL_law_X3_await
set_option maxRecDepth 20000 in
theorem ggL_law_L_wake : GoodIn wsL_law wsL_wake := goodIn_ca (goodIn_ca (goodIn_ca (goodIn_r _ [195, 66, 149, 67, 196, 197, 198, 2, 199, 72, 73, 74, 75, 76, 77, 16, 78, 79, 80, 81, 82, 83, 154, 155, 156, 157, 158, 84, 85, 86, 87, 88, 89, 200, 201, 202, 203, 204, 205, 206, 207, 170, 163, 208, 209, 210, 22, 211, 32, 37, 212, 213, 214, 215, 216, 18, 217, 218, 219, 220, 221, 164, 14, 222, 223, 224, 225, 226, 611, 612, 613, 614, 615, 616, 634, 635, 636, 637, 638, 639, 640, 641, 642, 643, 644] (by decide +kernel) (by decide +kernel)) (goodIn_sub (fun _ h => List.mem_append_left _ (List.mem_append_left _ (List.mem_append_right _ h))) (by decide +kernel))) (goodIn_sub (fun _ h => List.mem_append_right _ h) (by decide +kernel))) (goodIn_sub (fun _ h => List.mem_append_left _ (List.mem_append_right _ h)) (by decide +kernel))
set_option maxRecDepth 20000 in
theorem gL_law_L_wake : GoodIn wsL_law (va_wsS RL 124 yL_wake wsL_wake) := goodIn_app (goodIn_of _ (by decide +kernel)) ggL_law_L_wake
set_option maxRecDepth 20000 in
theorem ggL_law_X3_wake : GoodIn wsL_law wsX3_wake := goodIn_r _ [230, 176, 177, 5, 178, 94, 95, 96, 97, 51, 98, 99, 100, 101, 102, 103, 104, 231, 232, 233, 234, 235, 236, 237, 238, 55, 56, 239, 240, 241, 242, 52, 243, 59, 244, 245, 246, 247, 53, 248, 54, 249, 250, 251, 252, 50, 253, 254, 255, 256, 257, 617, 618, 619, 620, 621, 622, 623, 624, 625, 626, 627, 628, 629, 630, 631, 632, 633] (by decide +kernel) (by decide +kernel)
set_option maxRecDepth 20000 in
theorem gL_law_X3_wake : GoodIn wsL_law (wsV RL 126 RX3 yX3_wake wsX3_wake) := goodIn_app (goodIn_of _ (by decide +kernel)) ggL_law_X3_wake
set_option maxRecDepth 20000 in
theorem ggL_law_L_requeue : GoodIn wsL_law wsL_requeue := goodIn_ca (goodIn_ca (goodIn_ca (goodIn_r _ [260, 66, 149, 67, 261, 262, 263, 2, 264, 157, 158, 14, 72, 73, 74, 75, 76, 77, 16, 78, 79, 80, 81, 82, 83, 154, 155, 156, 84, 85, 86, 87, 88, 89, 200, 201, 202, 203, 204, 205, 206, 207, 170, 163, 208, 209, 210, 22, 211, 32, 37, 212, 213, 214, 215, 216, 18, 217, 218, 219, 220, 221, 164, 222, 223, 224, 225, 226, 265, 266, 267, 268, 166, 167, 168, 169, 20, 171, 611, 612, 613, 614, 615, 616, 634, 635, 636, 637, 638, 639, 640, 641, 642, 643, 644] (by decide +kernel) (by decide +kernel)) (goodIn_sub (fun _ h => List.mem_append_right _ h) (by decide +kernel))) (goodIn_sub (fun _ h => List.mem_append_left _ (List.mem_append_left _ (List.mem_append_right _ h))) (by decide +kernel))) (goodIn_sub (fun _ h => List.mem_append_left _ (List.mem_append_right _ h)) (by decide +kernel))
set_option maxRecDepth 20000 in
theorem gL_law_L_requeue : GoodIn wsL_law (va_wsS RL 127 yL_requeue wsL_requeue) := goodIn_app (goodIn_of _ (by decide +kernel)) ggL_law_L_requeue
set_option maxRecDepth 20000 in
theorem ggL_law_X3_requeue : GoodIn wsL_law wsX3_requeue := goodIn_r _ [272, 51, 50, 99, 100, 5, 101, 102, 103, 104, 142, 143, 144, 145, 98, 273, 274, 275, 276, 231, 232, 233, 234, 235, 236, 237, 238, 55, 56, 239, 240, 241, 242, 52, 243, 59, 244, 245, 246, 247, 53, 248, 54, 249, 250, 251, 252, 253, 254, 255, 256, 257, 188, 189, 190, 191, 192, 617, 618, 619, 620, 621, 622, 623, 624, 625, 626, 627, 628, 629, 630, 631, 632, 633] (by decide +kernel) (by decide +kernel)
set_option maxRecDepth 20000 in
theorem gL_law_X3_requeue : GoodIn wsL_law (wsV RL 130 RX3 yX3_requeue wsX3_requeue) := goodIn_app (goodIn_of _ (by decide +kernel)) ggL_law_X3_requeue
set_option maxRecDepth 20000 in
theorem ggL_law_L_lock : GoodIn wsL_law wsL_lock := goodIn_ca (goodIn_ca (goodIn_ca (goodIn_r _ [279, 66, 149, 67, 280, 281, 282, 2, 283, 14, 284, 89, 285, 72, 73, 74, 75, 76, 77, 16, 78, 79, 80, 81, 82, 83, 154, 155, 156, 157, 158, 84, 85, 86, 87, 88, 286, 287, 288, 289, 290, 291, 223, 224, 225, 226, 204, 205, 206, 207, 170, 163, 208, 209, 210, 22, 211, 32, 37, 292, 293, 294, 29, 295, 45, 44, 296, 297, 298, 299, 300, 301, 302, 303, 304, 305, 306, 307, 159, 160, 161, 162, 17, 164, 19, 165, 166, 167, 168, 169, 20, 171, 611, 612, 613, 614, 615, 616, 634, 635, 636, 637, 638, 639, 640, 641, 642, 643, 644, 645, 646] (by decide +kernel) (by decide +kernel)) (goodIn_sub (fun _ h => List.mem_append_left _ (List.mem_append_left _ (List.mem_append_right _ h))) (by decide +kernel))) (goodIn_sub (fun _ h => List.mem_append_right _ h) (by decide +kernel))) (goodIn_sub (fun _ h => List.mem_append_left _ (List.mem_append_right _ h)) (by decide +kernel))
set_option maxRecDepth 20000 in
theorem gL_law_L_lock : GoodIn wsL_law (va_wsS RL 131 yL_lock wsL_lock) := goodIn_app (goodIn_of _ (by decide +kernel)) ggL_law_L_lock
set_option maxRecDepth 20000 in
theorem ggL_law_X3_lock : GoodIn wsL_law wsX3_lock := goodIn_r _ [311, 50, 312, 313, 51, 179, 180, 5, 181, 94, 95, 96, 97, 98, 99, 100, 101, 102, 103, 104, 314, 315, 316, 254, 255, 256, 257, 235, 236, 237, 238, 55, 56, 239, 240, 241, 242, 52, 243, 59, 317, 318, 319, 320, 61, 60, 321, 322, 323, 324, 325, 326, 327, 328, 182, 183, 184, 185, 57, 186, 187, 58, 188, 189, 190, 191, 192, 617, 618, 619, 620, 621, 622, 623, 624, 625, 626, 627, 628, 629, 630, 631, 632, 633] (by decide +kernel) (by decide +kernel)
set_option maxRecDepth 20000 in
theorem gL_law_X3_lock : GoodIn wsL_law (wsV RL 133 RX3 yX3_lock wsX3_lock) := goodIn_app (goodIn_of _ (by decide +kernel)) ggL_law_X3_lock
set_option maxRecDepth 20000 in
theorem ggL_law_L_unlock : GoodIn wsL_law wsL_unlock := goodIn_ca (goodIn_ca (goodIn_r _ [331, 66, 67, 332, 333, 334, 2, 335, 87, 88, 291, 72, 73, 74, 75, 76, 77, 16, 78, 79, 80, 81, 82, 83, 84, 85, 86, 89, 300, 301, 302, 303, 14, 336, 337, 338, 29, 339, 45, 44, 296, 297, 298, 299, 340, 341, 342, 343, 284, 290, 223, 224, 225, 226, 204, 205, 206, 207, 170, 163, 208, 209, 210, 22, 211, 32, 37, 212, 213, 214, 215, 216, 18, 217, 218, 219, 220, 221, 164, 222, 286, 287, 288, 289, 285, 292, 293, 294, 295, 634, 635, 636, 637, 638, 639, 640, 641, 642, 643, 644, 611, 612, 613, 614, 615, 616, 645, 646] (by decide +kernel) (by decide +kernel)) (goodIn_sub (fun _ h => List.mem_append_left _ (List.mem_append_right _ h)) (by decide +kernel))) (goodIn_sub (fun _ h => List.mem_append_left _ (List.mem_append_left _ (List.mem_append_right _ h))) (by decide +kernel))
set_option maxRecDepth 20000 in
theorem gL_law_L_unlock : GoodIn wsL_law (va_wsS RL 134 yL_unlock wsL_unlock) := goodIn_app (goodIn_of _ (by decide +kernel)) ggL_law_L_unlock
set_option maxRecDepth 20000 in
theorem ggL_law_X3_unlock : GoodIn wsL_law wsX3_unlock := goodIn_r _ [347, 50, 94, 95, 96, 5, 97, 51, 98, 99, 100, 101, 102, 103, 104, 314, 315, 316, 273, 274, 275, 276, 348, 349, 350, 351, 60, 61, 321, 322, 323, 324, 352, 353, 354, 355, 312, 313, 235, 236, 237, 238, 55, 56, 239, 240, 241, 242, 52, 243, 59, 244, 245, 246, 247, 53, 248, 54, 249, 250, 251, 252, 253, 254, 255, 256, 257, 317, 318, 319, 320, 617, 618, 619, 620, 621, 622, 623, 624, 625, 626, 627, 628, 629, 630, 631, 632, 633] (by decide +kernel) (by decide +kernel)
set_option maxRecDepth 20000 in
theorem gL_law_X3_unlock : GoodIn wsL_law (wsV RL 137 RX3 yX3_unlock wsX3_unlock) := goodIn_app (goodIn_of _ (by decide +kernel)) ggL_law_X3_unlock
set_option maxRecDepth 20000 in
theorem ggL_law_L_locks : GoodIn wsL_law wsL_locks := goodIn_ca (goodIn_r _ [358, 66, 359, 360, 361, 2, 362, 291, 363, 72, 73, 74, 75, 76, 77, 16, 634, 635, 636, 637, 638, 639, 640, 641, 642, 643, 644, 645, 646, 611, 612, 613, 614, 615, 616] (by decide +kernel) (by decide +kernel)) (goodIn_sub (fun _ h => List.mem_append_left _ (List.mem_append_left _ (List.mem_append_right _ h))) (by decide +kernel))
set_option maxRecDepth 20000 in
theorem gL_law_L_locks : GoodIn wsL_law (va_wsS RL 138 yL_locks wsL_locks) := goodIn_app (goodIn_of _ (by decide +kernel)) ggL_law_L_locks
set_option maxRecDepth 20000 in
theorem ggL_law_X3_locks : GoodIn wsL_law wsX3_locks := goodIn_r _ [367, 60, 99, 100, 5, 101, 142, 143, 144, 145, 98, 617, 618, 619, 620, 621, 622, 623, 624, 625, 626, 627, 628, 629, 630, 631, 632, 633] (by decide +kernel) (by decide +kernel)
set_option maxRecDepth 20000 in
theorem gL_law_X3_locks : GoodIn wsL_law (wsV RL 140 RX3 yX3_locks wsX3_locks) := goodIn_app (goodIn_of _ (by decide +kernel)) ggL_law_X3_locks
set_option maxRecDepth 20000 in
theorem ggL_law_L_lockAt : GoodIn wsL_law wsL_lockAt := goodIn_ca (goodIn_r _ [370, 66, 371, 372, 373, 2, 374, 76, 77, 291, 363, 72, 73, 74, 75, 16, 375, 376, 377, 29, 378, 45, 44, 634, 635, 636, 637, 638, 639, 640, 641, 642, 643, 644, 645, 646, 611, 612, 613, 614, 615, 616] (by decide +kernel) (by decide +kernel)) (goodIn_sub (fun _ h => List.mem_append_left _ (List.mem_append_left _ (List.mem_append_right _ h))) (by decide +kernel))
set_option maxRecDepth 20000 in
theorem gL_law_L_lockAt : GoodIn wsL_law (va_wsS RL 141 yL_lockAt wsL_lockAt) := goodIn_app (goodIn_of _ (by decide +kernel)) ggL_law_L_lockAt
set_option maxRecDepth 20000 in
theorem ggL_law_X3_lockAt : GoodIn wsL_law wsX3_lockAt := goodIn_r _ [382, 60, 61, 99, 100, 5, 101, 142, 143, 144, 145, 98, 617, 618, 619, 620, 621, 622, 623, 624, 625, 626, 627, 628, 629, 630, 631, 632, 633] (by decide +kernel) (by decide +kernel)
set_option maxRecDepth 20000 in
theorem gL_law_X3_lockAt : GoodIn wsL_law (wsV RL 143 RX3 yX3_lockAt wsX3_lockAt) := goodIn_app (goodIn_of _ (by decide +kernel)) ggL_law_X3_lockAt
set_option maxRecDepth 20000 in
theorem ggL_law_L_blockedBy : GoodIn wsL_law wsL_blockedBy := goodIn_ca (goodIn_r _ [385, 66, 386, 387, 388, 2, 389, 72, 73, 74, 75, 76, 77, 16, 390, 391, 392, 22, 393, 40, 394, 395, 396, 397, 89, 170, 300, 301, 302, 303, 14, 81, 82, 83, 398, 399, 400, 401, 402, 403, 404, 611, 612, 613, 614, 615, 616, 634, 635, 636, 637, 638, 639, 640, 641, 642, 643, 644] (by decide +kernel) (by decide +kernel)) (goodIn_sub (fun _ h => List.mem_append_left _ (List.mem_append_left _ (List.mem_append_right _ h))) (by decide +kernel))
set_option maxRecDepth 20000 in
theorem gL_law_L_blockedBy : GoodIn wsL_law (va_wsS RL 144 yL_blockedBy wsL_blockedBy) := goodIn_app (goodIn_of _ (by decide +kernel)) ggL_law_L_blockedBy
set_option maxRecDepth 20000 in
theorem ggL_law_X3_blockedBy : GoodIn wsL_law wsX3_blockedBy := goodIn_r _ [408, 51, 50, 55, 99, 100, 5, 101, 142, 143, 144, 145, 98, 314, 315, 316, 617, 618, 619, 620, 621, 622, 623, 624, 625, 626, 627, 628, 629, 630, 631, 632, 633] (by decide +kernel) (by decide +kernel)
set_option maxRecDepth 20000 in
theorem gL_law_X3_blockedBy : GoodIn wsL_law (wsV RL 146 RX3 yX3_blockedBy wsX3_blockedBy) := goodIn_app (goodIn_of _ (by decide +kernel)) ggL_law_X3_blockedBy
set_option maxRecDepth 20000 in
theorem ggL_law_L_interrupt : GoodIn wsL_law wsL_interrupt := goodIn_ca (goodIn_ca (goodIn_r _ [411, 66, 67, 412, 413, 414, 2, 415, 87, 88, 72, 73, 74, 75, 76, 77, 16, 416, 417, 418, 22, 419, 33, 212, 213, 214, 215, 216, 18, 217, 218, 219, 220, 221, 170, 89, 164, 14, 222, 81, 82, 83, 223, 224, 225, 226, 204, 205, 206, 207, 163, 208, 209, 210, 211, 32, 37, 611, 612, 613, 614, 615, 616, 634, 635, 636, 637, 638, 639, 640, 641, 642, 643, 644] (by decide +kernel) (by decide +kernel)) (goodIn_sub (fun _ h => List.mem_append_left _ (List.mem_append_right _ h)) (by decide +kernel))) (goodIn_sub (fun _ h => List.mem_append_left _ (List.mem_append_left _ (List.mem_append_right _ h))) (by decide +kernel))
