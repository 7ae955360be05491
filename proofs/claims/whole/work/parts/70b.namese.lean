set_option maxRecDepth 20000 in
theorem gL_law_L_interrupt : GoodIn wsL_law (va_wsS RL 147 yL_interrupt wsL_interrupt) := goodIn_app (goodIn_of _ (by decide +kernel)) ggL_law_L_interrupt
set_option maxRecDepth 20000 in
theorem ggL_law_X3_interrupt : GoodIn wsL_law wsX3_interrupt := goodIn_r _ [423, 98, 99, 100, 5, 101, 142, 143, 144, 145, 424, 425, 426, 427, 51, 244, 245, 246, 247, 53, 248, 54, 249, 250, 251, 252, 55, 50, 253, 254, 255, 256, 257, 235, 236, 237, 238, 56, 239, 240, 241, 242, 52, 243, 59, 617, 618, 619, 620, 621, 622, 623, 624, 625, 626, 627, 628, 629, 630, 631, 632, 633] (by decide +kernel) (by decide +kernel)
set_option maxRecDepth 20000 in
theorem gL_law_X3_interrupt : GoodIn wsL_law (wsV RL 150 RX3 yX3_interrupt wsX3_interrupt) := goodIn_app (goodIn_of _ (by decide +kernel)) ggL_law_X3_interrupt
set_option maxRecDepth 20000 in
theorem ggL_law_L_exit : GoodIn wsL_law wsL_exit := goodIn_ca (goodIn_ca (goodIn_r _ [430, 66, 67, 431, 432, 433, 2, 434, 89, 291, 363, 72, 73, 74, 75, 76, 77, 16, 435, 436, 437, 87, 88, 416, 417, 418, 22, 419, 33, 218, 219, 220, 221, 170, 164, 14, 222, 81, 82, 83, 223, 224, 225, 226, 204, 205, 206, 207, 163, 208, 209, 210, 211, 32, 37, 375, 376, 377, 29, 378, 45, 44, 300, 301, 302, 303, 340, 341, 342, 343, 284, 290, 212, 213, 214, 215, 216, 18, 217, 286, 287, 288, 289, 285, 292, 293, 294, 295, 296, 297, 298, 299, 438, 439, 440, 441, 634, 635, 636, 637, 638, 639, 640, 641, 642, 643, 644, 645, 646, 611, 612, 613, 614, 615, 616] (by decide +kernel) (by decide +kernel)) (goodIn_sub (fun _ h => List.mem_append_left _ (List.mem_append_left _ (List.mem_append_right _ h))) (by decide +kernel))) (goodIn_sub (fun _ h => List.mem_append_left _ (List.mem_append_right _ h)) (by decide +kernel))
set_option maxRecDepth 20000 in
theorem gL_law_L_exit : GoodIn wsL_law (va_wsS RL 151 yL_exit wsL_exit) := goodIn_app (goodIn_of _ (by decide +kernel)) ggL_law_L_exit
set_option maxRecDepth 20000 in
theorem ggL_law_X3_exit : GoodIn wsL_law wsX3_exit := goodIn_r _ [445, 51, 60, 61, 50, 99, 100, 5, 101, 142, 143, 144, 145, 98, 273, 274, 275, 276, 249, 250, 251, 252, 55, 253, 254, 255, 256, 257, 235, 236, 237, 238, 56, 239, 240, 241, 242, 52, 243, 59, 314, 315, 316, 352, 353, 354, 355, 312, 313, 244, 245, 246, 247, 53, 248, 54, 317, 318, 319, 320, 321, 322, 323, 324, 617, 618, 619, 620, 621, 622, 623, 624, 625, 626, 627, 628, 629, 630, 631, 632, 633] (by decide +kernel) (by decide +kernel)
set_option maxRecDepth 20000 in
theorem gL_law_X3_exit : GoodIn wsL_law (wsV RL 153 RX3 yX3_exit wsX3_exit) := goodIn_app (goodIn_of _ (by decide +kernel)) ggL_law_X3_exit
set_option maxRecDepth 20000 in
theorem ggL_law_L_start : GoodIn wsL_law wsL_start := goodIn_ca (goodIn_ca (goodIn_r _ [448, 66, 67, 449, 450, 451, 2, 452, 87, 88, 89, 453, 216, 217, 72, 73, 74, 75, 76, 77, 16, 634, 635, 636, 637, 638, 639, 640, 641, 642, 643, 644, 611, 612, 613, 614, 615, 616] (by decide +kernel) (by decide +kernel)) (goodIn_sub (fun _ h => List.mem_append_left _ (List.mem_append_right _ h)) (by decide +kernel))) (goodIn_sub (fun _ h => List.mem_append_left _ (List.mem_append_left _ (List.mem_append_right _ h))) (by decide +kernel))
set_option maxRecDepth 20000 in
theorem gL_law_L_start : GoodIn wsL_law (va_wsS RL 154 yL_start wsL_start) := goodIn_app (goodIn_of _ (by decide +kernel)) ggL_law_L_start
set_option maxRecDepth 20000 in
theorem ggL_law_X3_start : GoodIn wsL_law wsX3_start := goodIn_r _ [457, 51, 98, 52, 53, 54, 99, 100, 5, 101, 142, 143, 144, 145, 617, 618, 619, 620, 621, 622, 623, 624, 625, 626, 627, 628, 629, 630, 631, 632, 633] (by decide +kernel) (by decide +kernel)
set_option maxRecDepth 20000 in
theorem gL_law_X3_start : GoodIn wsL_law (wsV RL 156 RX3 yX3_start wsX3_start) := goodIn_app (goodIn_of _ (by decide +kernel)) ggL_law_X3_start
set_option maxRecDepth 20000 in
theorem ggL_law_L_setPriority : GoodIn wsL_law wsL_setPriority := goodIn_ca (goodIn_ca (goodIn_ca (goodIn_r _ [460, 66, 149, 67, 461, 462, 463, 2, 464, 453, 170, 72, 73, 74, 75, 76, 77, 16, 154, 155, 156, 157, 158, 435, 436, 437, 87, 88, 89, 416, 417, 418, 22, 419, 33, 166, 167, 168, 169, 20, 171, 634, 635, 636, 637, 638, 639, 640, 641, 642, 643, 644, 611, 612, 613, 614, 615, 616] (by decide +kernel) (by decide +kernel)) (goodIn_sub (fun _ h => List.mem_append_left _ (List.mem_append_left _ (List.mem_append_right _ h))) (by decide +kernel))) (goodIn_sub (fun _ h => List.mem_append_right _ h) (by decide +kernel))) (goodIn_sub (fun _ h => List.mem_append_left _ (List.mem_append_right _ h)) (by decide +kernel))
set_option maxRecDepth 20000 in
theorem gL_law_L_setPriority : GoodIn wsL_law (va_wsS RL 157 yL_setPriority wsL_setPriority) := goodIn_app (goodIn_of _ (by decide +kernel)) ggL_law_L_setPriority
set_option maxRecDepth 20000 in
theorem ggL_law_X3_setPriority : GoodIn wsL_law wsX3_setPriority := goodIn_r _ [468, 51, 52, 55, 99, 100, 5, 101, 142, 143, 144, 145, 98, 273, 274, 275, 276, 424, 425, 426, 427, 188, 189, 190, 191, 192, 59, 617, 618, 619, 620, 621, 622, 623, 624, 625, 626, 627, 628, 629, 630, 631, 632, 633] (by decide +kernel) (by decide +kernel)
set_option maxRecDepth 20000 in
theorem gL_law_X3_setPriority : GoodIn wsL_law (wsV RL 159 RX3 yX3_setPriority wsX3_setPriority) := goodIn_app (goodIn_of _ (by decide +kernel)) ggL_law_X3_setPriority
set_option maxRecDepth 20000 in
theorem ggL_law_L_tick : GoodIn wsL_law wsL_tick := goodIn_ca (goodIn_r _ [471, 149, 472, 473, 474, 2, 475, 17, 164, 154, 155, 156, 157, 158, 476, 477, 478, 479, 16, 480, 481, 482, 22, 483, 35, 36, 212, 213, 214, 215, 216, 18, 217, 218, 219, 220, 221, 170, 89, 14, 222, 81, 82, 83, 223, 224, 225, 226, 204, 205, 206, 207, 163, 208, 209, 210, 211, 32, 37, 611, 612, 613, 614, 615, 616, 634, 635, 636, 637, 638, 639, 640, 641, 642, 643, 644] (by decide +kernel) (by decide +kernel)) (goodIn_sub (fun _ h => List.mem_append_right _ h) (by decide +kernel))
set_option maxRecDepth 20000 in
theorem gL_law_L_tick : GoodIn wsL_law (va_wsS RL 160 yL_tick wsL_tick) := goodIn_app (goodIn_of _ (by decide +kernel)) ggL_law_L_tick
set_option maxRecDepth 20000 in
theorem ggL_law_X3_tick : GoodIn wsL_law wsX3_tick := goodIn_r _ [487, 186, 142, 143, 144, 5, 145, 98, 488, 489, 490, 491, 57, 58, 424, 425, 426, 427, 51, 244, 245, 246, 247, 53, 248, 54, 249, 250, 251, 252, 55, 50, 253, 254, 255, 256, 257, 235, 236, 237, 238, 56, 239, 240, 241, 242, 52, 243, 59, 617, 618, 619, 620, 621, 622, 623, 624, 625, 626, 627, 628, 629, 630, 631, 632, 633] (by decide +kernel) (by decide +kernel)
set_option maxRecDepth 20000 in
theorem gL_law_X3_tick : GoodIn wsL_law (wsV RL 162 RX3 yX3_tick wsX3_tick) := goodIn_app (goodIn_of _ (by decide +kernel)) ggL_law_X3_tick
set_option maxRecDepth 20000 in
theorem ggL_law_X2_now : GoodIn wsL_law wsX2_now := goodIn_r _ [495, 17, 611, 612, 613, 614, 615, 616] (by decide +kernel) (by decide +kernel)
set_option maxRecDepth 20000 in
theorem gL_law_X2_now : GoodIn wsL_law (wsV RL 163 RX2 yX2_now wsX2_now) := goodIn_app (goodIn_of _ (by decide +kernel)) ggL_law_X2_now
set_option maxRecDepth 20000 in
theorem ggL_law_X3_now : GoodIn wsL_law wsX3_now := goodIn_r _ [499, 98, 186, 617, 618, 619, 620, 621, 622, 623, 624, 625, 626, 627, 628, 629, 630, 631, 632, 633] (by decide +kernel) (by decide +kernel)
set_option maxRecDepth 20000 in
theorem gL_law_X3_now : GoodIn wsL_law (wsV RL 166 RX3 yX3_now wsX3_now) := goodIn_app (goodIn_of _ (by decide +kernel)) ggL_law_X3_now
set_option maxRecDepth 20000 in
theorem ggL_law_X2_nextTimeout : GoodIn wsL_law wsX2_nextTimeout := goodIn_r _ [503, 164, 17, 476, 477, 478, 2, 479, 16, 480, 481, 482, 22, 483, 35, 36, 634, 635, 636, 637, 638, 639, 640, 641, 642, 643, 644, 611, 612, 613, 614, 615, 616] (by decide +kernel) (by decide +kernel)
set_option maxRecDepth 20000 in
theorem gL_law_X2_nextTimeout : GoodIn wsL_law (wsV RL 167 RX2 yX2_nextTimeout wsX2_nextTimeout) := goodIn_app (goodIn_of _ (by decide +kernel)) ggL_law_X2_nextTimeout
set_option maxRecDepth 20000 in
theorem ggL_law_X3_nextTimeout : GoodIn wsL_law wsX3_nextTimeout := goodIn_r _ [507, 98, 57, 186, 424, 425, 426, 5, 427, 51, 617, 618, 619, 620, 621, 622, 623, 624, 625, 626, 627, 628, 629, 630, 631, 632, 633] (by decide +kernel) (by decide +kernel)
set_option maxRecDepth 20000 in
theorem gL_law_X3_nextTimeout : GoodIn wsL_law (wsV RL 170 RX3 yX3_nextTimeout wsX3_nextTimeout) := goodIn_app (goodIn_of _ (by decide +kernel)) ggL_law_X3_nextTimeout
set_option maxRecDepth 20000 in
theorem ggL_law_L_stateOf : GoodIn wsL_law wsL_stateOf := goodIn_ca (goodIn_r _ [510, 66, 511, 512, 513, 2, 514, 89, 72, 73, 74, 75, 76, 77, 16, 634, 635, 636, 637, 638, 639, 640, 641, 642, 643, 644, 611, 612, 613, 614, 615, 616] (by decide +kernel) (by decide +kernel)) (goodIn_sub (fun _ h => List.mem_append_left _ (List.mem_append_left _ (List.mem_append_right _ h))) (by decide +kernel))
set_option maxRecDepth 20000 in
theorem gL_law_L_stateOf : GoodIn wsL_law (va_wsS RL 171 yL_stateOf wsL_stateOf) := goodIn_app (goodIn_of _ (by decide +kernel)) ggL_law_L_stateOf
set_option maxRecDepth 20000 in
theorem ggL_law_X3_stateOf : GoodIn wsL_law wsX3_stateOf := goodIn_r _ [518, 51, 99, 100, 5, 101, 142, 143, 144, 145, 98, 617, 618, 619, 620, 621, 622, 623, 624, 625, 626, 627, 628, 629, 630, 631, 632, 633] (by decide +kernel) (by decide +kernel)
set_option maxRecDepth 20000 in
theorem gL_law_X3_stateOf : GoodIn wsL_law (wsV RL 173 RX3 yX3_stateOf wsX3_stateOf) := goodIn_app (goodIn_of _ (by decide +kernel)) ggL_law_X3_stateOf
set_option maxRecDepth 20000 in
theorem ggL_law_L_addressOf : GoodIn wsL_law wsL_addressOf := goodIn_ca (goodIn_r _ [521, 66, 522, 523, 524, 2, 525, 170, 72, 73, 74, 75, 76, 77, 16, 634, 635, 636, 637, 638, 639, 640, 641, 642, 643, 644, 611, 612, 613, 614, 615, 616] (by decide +kernel) (by decide +kernel)) (goodIn_sub (fun _ h => List.mem_append_left _ (List.mem_append_left _ (List.mem_append_right _ h))) (by decide +kernel))
set_option maxRecDepth 20000 in
theorem gL_law_L_addressOf : GoodIn wsL_law (va_wsS RL 174 yL_addressOf wsL_addressOf) := goodIn_app (goodIn_of _ (by decide +kernel)) ggL_law_L_addressOf
set_option maxRecDepth 20000 in
theorem ggL_law_X3_addressOf : GoodIn wsL_law wsX3_addressOf := goodIn_r _ [529, 55, 99, 100, 5, 101, 142, 143, 144, 145, 98, 424, 425, 426, 427, 51, 617, 618, 619, 620, 621, 622, 623, 624, 625, 626, 627, 628, 629, 630, 631, 632, 633] (by decide +kernel) (by decide +kernel)
set_option maxRecDepth 20000 in
theorem gL_law_X3_addressOf : GoodIn wsL_law (wsV RL 176 RX3 yX3_addressOf wsX3_addressOf) := goodIn_app (goodIn_of _ (by decide +kernel)) ggL_law_X3_addressOf
set_option maxRecDepth 20000 in
theorem ggL_law_L_resultOf : GoodIn wsL_law wsL_resultOf := goodIn_ca (goodIn_r _ [532, 66, 533, 534, 535, 2, 536, 216, 72, 73, 74, 75, 76, 77, 16, 634, 635, 636, 637, 638, 639, 640, 641, 642, 643, 644, 611, 612, 613, 614, 615, 616] (by decide +kernel) (by decide +kernel)) (goodIn_sub (fun _ h => List.mem_append_left _ (List.mem_append_left _ (List.mem_append_right _ h))) (by decide +kernel))
set_option maxRecDepth 20000 in
theorem gL_law_L_resultOf : GoodIn wsL_law (va_wsS RL 177 yL_resultOf wsL_resultOf) := goodIn_app (goodIn_of _ (by decide +kernel)) ggL_law_L_resultOf
set_option maxRecDepth 20000 in
theorem ggL_law_X3_resultOf : GoodIn wsL_law wsX3_resultOf := goodIn_r _ [540, 53, 99, 100, 5, 101, 142, 143, 144, 145, 98, 617, 618, 619, 620, 621, 622, 623, 624, 625, 626, 627, 628, 629, 630, 631, 632, 633] (by decide +kernel) (by decide +kernel)
set_option maxRecDepth 20000 in
theorem gL_law_X3_resultOf : GoodIn wsL_law (wsV RL 179 RX3 yX3_resultOf wsX3_resultOf) := goodIn_app (goodIn_of _ (by decide +kernel)) ggL_law_X3_resultOf
set_option maxRecDepth 20000 in
theorem ggL_law_L_serialOf : GoodIn wsL_law wsL_serialOf := goodIn_ca (goodIn_r _ [543, 66, 544, 545, 546, 2, 547, 217, 72, 73, 74, 75, 76, 77, 16, 634, 635, 636, 637, 638, 639, 640, 641, 642, 643, 644, 611, 612, 613, 614, 615, 616] (by decide +kernel) (by decide +kernel)) (goodIn_sub (fun _ h => List.mem_append_left _ (List.mem_append_left _ (List.mem_append_right _ h))) (by decide +kernel))
set_option maxRecDepth 20000 in
theorem gL_law_L_serialOf : GoodIn wsL_law (va_wsS RL 180 yL_serialOf wsL_serialOf) := goodIn_app (goodIn_of _ (by decide +kernel)) ggL_law_L_serialOf
set_option maxRecDepth 20000 in
theorem ggL_law_X3_serialOf : GoodIn wsL_law wsX3_serialOf := goodIn_r _ [551, 54, 99, 100, 5, 101, 142, 143, 144, 145, 98, 617, 618, 619, 620, 621, 622, 623, 624, 625, 626, 627, 628, 629, 630, 631, 632, 633] (by decide +kernel) (by decide +kernel)
set_option maxRecDepth 20000 in
theorem gL_law_X3_serialOf : GoodIn wsL_law (wsV RL 182 RX3 yX3_serialOf wsX3_serialOf) := goodIn_app (goodIn_of _ (by decide +kernel)) ggL_law_X3_serialOf
set_option maxRecDepth 20000 in
theorem ggL_law_L_waiters : GoodIn wsL_law wsL_waiters := goodIn_ca (goodIn_r _ [554, 66, 555, 556, 557, 2, 558, 16, 170, 78, 79, 80, 76, 77, 81, 82, 83, 611, 612, 613, 614, 615, 616, 634, 635, 636, 637, 638, 639, 640, 641, 642, 643, 644] (by decide +kernel) (by decide +kernel)) (goodIn_sub (fun _ h => List.mem_append_left _ (List.mem_append_left _ (List.mem_append_right _ h))) (by decide +kernel))
set_option maxRecDepth 20000 in
theorem gL_law_L_waiters : GoodIn wsL_law (va_wsS RL 183 yL_waiters wsL_waiters) := goodIn_app (goodIn_of _ (by decide +kernel)) ggL_law_L_waiters
set_option maxRecDepth 20000 in
theorem ggL_law_X3_waiters : GoodIn wsL_law wsX3_waiters := goodIn_r _ [562, 102, 103, 5, 104, 142, 143, 144, 145, 98, 563, 564, 565, 566, 55, 424, 425, 426, 427, 51, 617, 618, 619, 620, 621, 622, 623, 624, 625, 626, 627, 628, 629, 630, 631, 632, 633] (by decide +kernel) (by decide +kernel)
set_option maxRecDepth 20000 in
theorem gL_law_X3_waiters : GoodIn wsL_law (wsV RL 185 RX3 yX3_waiters wsX3_waiters) := goodIn_app (goodIn_of _ (by decide +kernel)) ggL_law_X3_waiters
set_option maxRecDepth 20000 in
theorem ggL_law_L_waiterAt : GoodIn wsL_law wsL_waiterAt := goodIn_ca (goodIn_r _ [569, 66, 570, 571, 572, 2, 573, 76, 77, 16, 170, 290, 78, 79, 80, 81, 82, 83, 574, 575, 576, 577, 208, 209, 210, 22, 211, 32, 37, 611, 612, 613, 614, 615, 616, 634, 635, 636, 637, 638, 639, 640, 641, 642, 643, 644] (by decide +kernel) (by decide +kernel)) (goodIn_sub (fun _ h => List.mem_append_left _ (List.mem_append_left _ (List.mem_append_right _ h))) (by decide +kernel))
set_option maxRecDepth 20000 in
theorem gL_law_L_waiterAt : GoodIn wsL_law (va_wsS RL 186 yL_waiterAt wsL_waiterAt) := goodIn_app (goodIn_of _ (by decide +kernel)) ggL_law_L_waiterAt
set_option maxRecDepth 20000 in
theorem ggL_law_X3_waiterAt : GoodIn wsL_law wsX3_waiterAt := goodIn_r _ [581, 102, 103, 5, 104, 563, 564, 565, 566, 55, 424, 425, 426, 427, 51, 142, 143, 144, 145, 98, 582, 583, 584, 585, 586, 587, 588, 589, 590, 591, 592, 239, 240, 241, 242, 52, 243, 59, 617, 618, 619, 620, 621, 622, 623, 624, 625, 626, 627, 628, 629, 630, 631, 632, 633] (by decide +kernel) (by decide +kernel)
set_option maxRecDepth 20000 in
theorem gL_law_X3_waiterAt : GoodIn wsL_law (wsV RL 188 RX3 yX3_waiterAt wsX3_waiterAt) := goodIn_app (goodIn_of _ (by decide +kernel)) ggL_law_X3_waiterAt
set_option maxRecDepth 20000 in
theorem ggL_law_L_queueAt : GoodIn wsL_law wsL_queueAt := goodIn_ca (goodIn_r _ [595, 66, 596, 597, 598, 2, 599, 76, 77, 16, 170, 290, 416, 417, 418, 22, 419, 33, 600, 601, 602, 603, 604, 605, 606, 208, 209, 210, 211, 32, 37, 611, 612, 613, 614, 615, 616, 634, 635, 636, 637, 638, 639, 640, 641, 642, 643, 644] (by decide +kernel) (by decide +kernel)) (goodIn_sub (fun _ h => List.mem_append_left _ (List.mem_append_left _ (List.mem_append_right _ h))) (by decide +kernel))
set_option maxRecDepth 20000 in
theorem gL_law_L_queueAt : GoodIn wsL_law (va_wsS RL 189 yL_queueAt wsL_queueAt) := goodIn_app (goodIn_of _ (by decide +kernel)) ggL_law_L_queueAt
set_option maxRecDepth 20000 in
theorem ggL_law_X3_queueAt : GoodIn wsL_law wsX3_queueAt := goodIn_r _ [610, 142, 143, 144, 5, 145, 98, 585, 586, 587, 588, 589, 590, 591, 592, 55, 424, 425, 426, 427, 51, 582, 583, 584, 239, 240, 241, 242, 52, 243, 59, 617, 618, 619, 620, 621, 622, 623, 624, 625, 626, 627, 628, 629, 630, 631, 632, 633] (by decide +kernel) (by decide +kernel)
set_option maxRecDepth 20000 in
theorem gL_law_X3_queueAt : GoodIn wsL_law (wsV RL 191 RX3 yX3_queueAt wsX3_queueAt) := goodIn_app (goodIn_of _ (by decide +kernel)) ggL_law_X3_queueAt
