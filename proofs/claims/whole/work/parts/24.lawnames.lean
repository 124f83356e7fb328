set_option maxRecDepth 20000 in
theorem ggL_law_L_addGate : GoodIn wsL_law wsL_addGate := goodIn_ca (goodIn_ca (goodIn_r _ [46, 47, 48, 49, 50, 51, 2, 52, 53, 54, 55, 56, 16, 57, 58, 59, 60, 61, 62, 63, 15, 64, 65, 22, 23, 656, 657, 666, 667, 668, 669, 670, 671, 672, 673, 674, 675, 676, 677, 678, 679, 680, 681, 682] (by decide +kernel) (by decide +kernel)) (goodIn_sub (fun _ h => List.mem_append_left _ (List.mem_append_left _ (List.mem_append_right _ h))) (by decide +kernel))) (goodIn_sub (fun _ h => List.mem_append_left _ (List.mem_append_right _ h)) (by decide +kernel))
set_option maxRecDepth 20000 in
theorem gL_law_L_addGate : GoodIn wsL_law (va_wsS RL 86 yL_addGate wsL_addGate) := goodIn_app (goodIn_of _ (by decide +kernel)) ggL_law_L_addGate
set_option maxRecDepth 20000 in
theorem ggL_law_X2_addGate : GoodIn wsL_law wsX2_addGate := goodIn_r _ [69, 70, 71, 38, 39, 72, 73, 5, 74, 75, 76, 77, 78, 658, 659, 660, 661, 662, 663, 664, 665] (by decide +kernel) (by decide +kernel)
set_option maxRecDepth 20000 in
theorem gL_law_X2_addGate : GoodIn wsL_law (wsV RL 91 RX2 yX2_addGate wsX2_addGate) := goodIn_app (goodIn_of _ (by decide +kernel)) ggL_law_X2_addGate
set_option maxRecDepth 20000 in
theorem ggL_law_X2_thrown : GoodIn wsL_law wsX2_thrown := goodIn_r _ [82, 70, 658, 659, 660, 661, 662, 663, 664, 665] (by decide +kernel) (by decide +kernel)
set_option maxRecDepth 20000 in
theorem gL_law_X2_thrown : GoodIn wsL_law (wsV RL 92 RX2 yX2_thrown wsX2_thrown) := goodIn_app (goodIn_of _ (by decide +kernel)) ggL_law_X2_thrown
set_option maxRecDepth 20000 in
theorem ggL_law_L_addGoat : GoodIn wsL_law wsL_addGoat := goodIn_ca (goodIn_ca (goodIn_r _ [85, 47, 48, 86, 87, 88, 2, 89, 55, 56, 16, 90, 58, 59, 60, 53, 54, 91, 92, 93, 15, 94, 95, 25, 96, 97, 98, 99, 26, 27, 30, 32, 656, 657, 666, 667, 668, 669, 670, 671, 672, 673, 674, 675, 676, 677, 678, 679, 680, 681, 682] (by decide +kernel) (by decide +kernel)) (goodIn_sub (fun _ h => List.mem_append_left _ (List.mem_append_right _ h)) (by decide +kernel))) (goodIn_sub (fun _ h => List.mem_append_left _ (List.mem_append_left _ (List.mem_append_right _ h))) (by decide +kernel))
set_option maxRecDepth 20000 in
theorem gL_law_L_addGoat : GoodIn wsL_law (va_wsS RL 96 yL_addGoat wsL_addGoat) := goodIn_app (goodIn_of _ (by decide +kernel)) ggL_law_L_addGoat
set_option maxRecDepth 20000 in
theorem ggL_law_X2_addGoat : GoodIn wsL_law wsX2_addGoat := goodIn_r _ [103, 70, 104, 40, 72, 73, 5, 74, 75, 76, 77, 78, 658, 659, 660, 661, 662, 663, 664, 665] (by decide +kernel) (by decide +kernel)
set_option maxRecDepth 20000 in
theorem gL_law_X2_addGoat : GoodIn wsL_law (wsV RL 99 RX2 yX2_addGoat wsX2_addGoat) := goodIn_app (goodIn_of _ (by decide +kernel)) ggL_law_X2_addGoat
set_option maxRecDepth 20000 in
theorem ggL_law_L_ask : GoodIn wsL_law wsL_ask := goodIn_ca (goodIn_ca (goodIn_ca (goodIn_r _ [107, 108, 47, 48, 109, 110, 111, 2, 112, 16, 113, 114, 115, 116, 117, 118, 119, 90, 120, 121, 122, 123, 57, 58, 59, 60, 53, 54, 124, 125, 126, 127, 55, 56, 128, 129, 130, 131, 15, 132, 26, 27, 28, 29, 30, 31, 133, 134, 135, 136, 137, 95, 138, 139, 140, 141, 656, 657, 666, 667, 668, 669, 670, 671, 672, 673, 674, 675, 676, 677, 678, 679, 680, 681, 682] (by decide +kernel) (by decide +kernel)) (goodIn_sub (fun _ h => List.mem_append_right _ h) (by decide +kernel))) (goodIn_sub (fun _ h => List.mem_append_left _ (List.mem_append_left _ (List.mem_append_right _ h))) (by decide +kernel))) (goodIn_sub (fun _ h => List.mem_append_left _ (List.mem_append_right _ h)) (by decide +kernel))
set_option maxRecDepth 20000 in
theorem gL_law_L_ask : GoodIn wsL_law (va_wsS RL 100 yL_ask wsL_ask) := goodIn_app (goodIn_of _ (by decide +kernel)) ggL_law_L_ask
set_option maxRecDepth 20000 in
theorem ggL_law_X2_ask : GoodIn wsL_law wsX2_ask := goodIn_r _ [145, 70, 38, 41, 146, 147, 148, 5, 149, 104, 72, 73, 74, 150, 151, 152, 153, 71, 75, 76, 77, 78, 154, 155, 156, 157, 158, 159, 160, 161, 162, 163, 164, 165, 166, 167, 168, 169, 170, 171, 172, 173, 174, 175, 176, 177, 658, 659, 660, 661, 662, 663, 664, 665] (by decide +kernel) (by decide +kernel)
set_option maxRecDepth 20000 in
theorem gL_law_X2_ask : GoodIn wsL_law (wsV RL 103 RX2 yX2_ask wsX2_ask) := goodIn_app (goodIn_of _ (by decide +kernel)) ggL_law_X2_ask
set_option maxRecDepth 20000 in
theorem ggL_law_L_barge : GoodIn wsL_law wsL_barge := goodIn_ca (goodIn_ca (goodIn_ca (goodIn_r _ [180, 108, 47, 48, 181, 182, 183, 2, 184, 55, 56, 16, 113, 114, 115, 116, 117, 118, 119, 90, 120, 121, 122, 123, 57, 58, 59, 60, 53, 54, 124, 125, 126, 127, 128, 185, 186, 187, 15, 188, 22, 95, 26, 27, 28, 189, 190, 191, 192, 30, 32, 656, 657, 666, 667, 668, 669, 670, 671, 672, 673, 674, 675, 676, 677, 678, 679, 680, 681, 682] (by decide +kernel) (by decide +kernel)) (goodIn_sub (fun _ h => List.mem_append_left _ (List.mem_append_right _ h)) (by decide +kernel))) (goodIn_sub (fun _ h => List.mem_append_right _ h) (by decide +kernel))) (goodIn_sub (fun _ h => List.mem_append_left _ (List.mem_append_left _ (List.mem_append_right _ h))) (by decide +kernel))
set_option maxRecDepth 20000 in
theorem gL_law_L_barge : GoodIn wsL_law (va_wsS RL 104 yL_barge wsL_barge) := goodIn_app (goodIn_of _ (by decide +kernel)) ggL_law_L_barge
set_option maxRecDepth 20000 in
theorem ggL_law_X2_barge : GoodIn wsL_law wsX2_barge := goodIn_r _ [196, 70, 38, 146, 147, 148, 5, 149, 104, 72, 73, 74, 150, 151, 152, 153, 71, 75, 76, 77, 78, 154, 155, 156, 157, 158, 159, 160, 161, 41, 197, 198, 199, 200, 162, 163, 164, 165, 166, 167, 168, 169, 658, 659, 660, 661, 662, 663, 664, 665] (by decide +kernel) (by decide +kernel)
set_option maxRecDepth 20000 in
theorem gL_law_X2_barge : GoodIn wsL_law (wsV RL 107 RX2 yX2_barge wsX2_barge) := goodIn_app (goodIn_of _ (by decide +kernel)) ggL_law_X2_barge
set_option maxRecDepth 20000 in
theorem ggL_law_L_callBack : GoodIn wsL_law wsL_callBack := goodIn_ca (goodIn_ca (goodIn_r _ [203, 108, 48, 204, 205, 206, 2, 207, 55, 56, 16, 128, 114, 115, 116, 117, 118, 119, 90, 208, 209, 210, 15, 211, 26, 28, 212, 97, 98, 99, 27, 30, 32, 656, 657, 666, 667, 668, 669, 670, 671, 672, 673, 674, 675, 676, 677, 678, 679, 680, 681, 682] (by decide +kernel) (by decide +kernel)) (goodIn_sub (fun _ h => List.mem_append_left _ (List.mem_append_right _ h)) (by decide +kernel))) (goodIn_sub (fun _ h => List.mem_append_right _ h) (by decide +kernel))
set_option maxRecDepth 20000 in
theorem gL_law_L_callBack : GoodIn wsL_law (va_wsS RL 108 yL_callBack wsL_callBack) := goodIn_app (goodIn_of _ (by decide +kernel)) ggL_law_L_callBack
set_option maxRecDepth 20000 in
theorem ggL_law_X2_callBack : GoodIn wsL_law wsX2_callBack := goodIn_r _ [216, 70, 146, 147, 148, 5, 149, 104, 72, 73, 74, 75, 76, 77, 78, 154, 155, 156, 157, 158, 159, 160, 161, 41, 217, 218, 219, 220, 166, 167, 168, 169, 658, 659, 660, 661, 662, 663, 664, 665] (by decide +kernel) (by decide +kernel)
set_option maxRecDepth 20000 in
theorem gL_law_X2_callBack : GoodIn wsL_law (wsV RL 110 RX2 yX2_callBack wsX2_callBack) := goodIn_app (goodIn_of _ (by decide +kernel)) ggL_law_X2_callBack
set_option maxRecDepth 20000 in
theorem ggL_law_L_pass : GoodIn wsL_law wsL_pass := goodIn_ca (goodIn_r _ [223, 47, 224, 225, 226, 2, 227, 16, 228, 58, 59, 60, 53, 54, 229, 230, 231, 15, 232, 65, 233, 234, 235, 236, 237, 95, 26, 30, 96, 97, 98, 99, 27, 32, 238, 239, 240, 241, 28, 29, 242, 243, 244, 245, 246, 23, 31, 247, 186, 187, 188, 22, 138, 139, 140, 141, 248, 249, 250, 251, 25, 252, 190, 191, 192, 253, 254, 255, 256, 33, 24, 656, 657, 666, 667, 668, 669, 670, 671, 672, 673, 674, 675, 676, 677, 678, 679, 680, 681, 682] (by decide +kernel) (by decide +kernel)) (goodIn_sub (fun _ h => List.mem_append_left _ (List.mem_append_left _ (List.mem_append_right _ h))) (by decide +kernel))
set_option maxRecDepth 20000 in
theorem gL_law_L_pass : GoodIn wsL_law (va_wsS RL 111 yL_pass wsL_pass) := goodIn_app (goodIn_of _ (by decide +kernel)) ggL_law_L_pass
set_option maxRecDepth 20000 in
theorem ggL_law_X2_pass : GoodIn wsL_law wsX2_pass := goodIn_r _ [260, 70, 41, 72, 73, 5, 74, 75, 76, 77, 78, 261, 262, 263, 264, 265, 266, 267, 268, 104, 71, 269, 270, 271, 272, 154, 155, 156, 157, 158, 159, 160, 161, 166, 167, 168, 169, 273, 274, 275, 276, 277, 278, 279, 280, 39, 197, 198, 199, 200, 38, 281, 282, 283, 284, 174, 175, 176, 177, 285, 286, 287, 288, 40, 289, 290, 291, 292, 658, 659, 660, 661, 662, 663, 664, 665] (by decide +kernel) (by decide +kernel)
set_option maxRecDepth 20000 in
theorem gL_law_X2_pass : GoodIn wsL_law (wsV RL 113 RX2 yX2_pass wsX2_pass) := goodIn_app (goodIn_of _ (by decide +kernel)) ggL_law_X2_pass
set_option maxRecDepth 20000 in
theorem ggL_law_X1_minute : GoodIn wsL_law wsX1_minute := goodIn_r _ [296, 16, 297, 656, 657, 666, 667, 668, 669, 670, 671, 672, 673, 674, 675, 676, 677, 678, 679, 680, 681, 682] (by decide +kernel) (by decide +kernel)
set_option maxRecDepth 20000 in
theorem gL_law_X1_minute : GoodIn wsL_law (wsV RL 114 RX1 yX1_minute wsX1_minute) := goodIn_app (goodIn_of _ (by decide +kernel)) ggL_law_X1_minute
set_option maxRecDepth 20000 in
theorem ggL_law_X2_minute : GoodIn wsL_law wsX2_minute := goodIn_r _ [301, 41, 302, 303, 304, 5, 305, 70, 658, 659, 660, 661, 662, 663, 664, 665] (by decide +kernel) (by decide +kernel)
set_option maxRecDepth 20000 in
theorem gL_law_X2_minute : GoodIn wsL_law (wsV RL 117 RX2 yX2_minute wsX2_minute) := goodIn_app (goodIn_of _ (by decide +kernel)) ggL_law_X2_minute
set_option maxRecDepth 20000 in
theorem ggL_law_X1_gates : GoodIn wsL_law wsX1_gates := goodIn_r _ [309, 16, 57, 656, 657, 666, 667, 668, 669, 670, 671, 672, 673, 674, 675, 676, 677, 678, 679, 680, 681, 682] (by decide +kernel) (by decide +kernel)
set_option maxRecDepth 20000 in
theorem gL_law_X1_gates : GoodIn wsL_law (wsV RL 118 RX1 yX1_gates wsX1_gates) := goodIn_app (goodIn_of _ (by decide +kernel)) ggL_law_X1_gates
set_option maxRecDepth 20000 in
theorem ggL_law_X2_gates : GoodIn wsL_law wsX2_gates := goodIn_r _ [313, 71, 302, 303, 304, 5, 305, 70, 658, 659, 660, 661, 662, 663, 664, 665] (by decide +kernel) (by decide +kernel)
set_option maxRecDepth 20000 in
theorem gL_law_X2_gates : GoodIn wsL_law (wsV RL 121 RX2 yX2_gates wsX2_gates) := goodIn_app (goodIn_of _ (by decide +kernel)) ggL_law_X2_gates
set_option maxRecDepth 20000 in
theorem ggL_law_X1_goats : GoodIn wsL_law wsX1_goats := goodIn_r _ [317, 16, 90, 656, 657, 666, 667, 668, 669, 670, 671, 672, 673, 674, 675, 676, 677, 678, 679, 680, 681, 682] (by decide +kernel) (by decide +kernel)
set_option maxRecDepth 20000 in
theorem gL_law_X1_goats : GoodIn wsL_law (wsV RL 122 RX1 yX1_goats wsX1_goats) := goodIn_app (goodIn_of _ (by decide +kernel)) ggL_law_X1_goats
set_option maxRecDepth 20000 in
theorem ggL_law_X2_goats : GoodIn wsL_law wsX2_goats := goodIn_r _ [321, 104, 302, 303, 304, 5, 305, 70, 658, 659, 660, 661, 662, 663, 664, 665] (by decide +kernel) (by decide +kernel)
set_option maxRecDepth 20000 in
theorem gL_law_X2_goats : GoodIn wsL_law (wsV RL 125 RX2 yX2_goats wsX2_goats) := goodIn_app (goodIn_of _ (by decide +kernel)) ggL_law_X2_goats
set_option maxRecDepth 20000 in
theorem ggL_law_X1_waiting : GoodIn wsL_law wsX1_waiting := goodIn_r _ [325, 16, 326, 327, 328, 15, 329, 95, 26, 656, 657, 666, 667, 668, 669, 670, 671, 672, 673, 674, 675, 676, 677, 678, 679, 680, 681, 682] (by decide +kernel) (by decide +kernel)
set_option maxRecDepth 20000 in
theorem gL_law_X1_waiting : GoodIn wsL_law (wsV RL 126 RX1 yX1_waiting wsX1_waiting) := goodIn_app (goodIn_of _ (by decide +kernel)) ggL_law_X1_waiting
set_option maxRecDepth 20000 in
theorem ggL_law_X2_waiting : GoodIn wsL_law wsX2_waiting := goodIn_r _ [333, 334, 335, 336, 5, 337, 104, 154, 155, 156, 157, 158, 159, 160, 161, 41, 302, 303, 304, 305, 70, 658, 659, 660, 661, 662, 663, 664, 665] (by decide +kernel) (by decide +kernel)
set_option maxRecDepth 20000 in
theorem gL_law_X2_waiting : GoodIn wsL_law (wsV RL 129 RX2 yX2_waiting wsX2_waiting) := goodIn_app (goodIn_of _ (by decide +kernel)) ggL_law_X2_waiting
set_option maxRecDepth 20000 in
theorem ggL_law_X1_inside : GoodIn wsL_law wsX1_inside := goodIn_r _ [341, 16, 326, 327, 328, 15, 329, 95, 26, 656, 657, 666, 667, 668, 669, 670, 671, 672, 673, 674, 675, 676, 677, 678, 679, 680, 681, 682] (by decide +kernel) (by decide +kernel)
set_option maxRecDepth 20000 in
theorem gL_law_X1_inside : GoodIn wsL_law (wsV RL 130 RX1 yX1_inside wsX1_inside) := goodIn_app (goodIn_of _ (by decide +kernel)) ggL_law_X1_inside
set_option maxRecDepth 20000 in
theorem ggL_law_X2_inside : GoodIn wsL_law wsX2_inside := goodIn_r _ [345, 334, 335, 336, 5, 337, 104, 154, 155, 156, 157, 158, 159, 160, 161, 41, 302, 303, 304, 305, 70, 658, 659, 660, 661, 662, 663, 664, 665] (by decide +kernel) (by decide +kernel)
set_option maxRecDepth 20000 in
theorem gL_law_X2_inside : GoodIn wsL_law (wsV RL 133 RX2 yX2_inside wsX2_inside) := goodIn_app (goodIn_of _ (by decide +kernel)) ggL_law_X2_inside
set_option maxRecDepth 20000 in
theorem ggL_law_X1_starving : GoodIn wsL_law wsX1_starving := goodIn_r _ [349, 16, 350, 351, 352, 15, 353, 95, 26, 32, 656, 657, 666, 667, 668, 669, 670, 671, 672, 673, 674, 675, 676, 677, 678, 679, 680, 681, 682] (by decide +kernel) (by decide +kernel)
set_option maxRecDepth 20000 in
theorem gL_law_X1_starving : GoodIn wsL_law (wsV RL 134 RX1 yX1_starving wsX1_starving) := goodIn_app (goodIn_of _ (by decide +kernel)) ggL_law_X1_starving
set_option maxRecDepth 20000 in
theorem ggL_law_X2_starving : GoodIn wsL_law wsX2_starving := goodIn_r _ [357, 358, 359, 360, 5, 361, 104, 154, 155, 156, 157, 158, 159, 160, 161, 41, 302, 303, 304, 305, 70, 658, 659, 660, 661, 662, 663, 664, 665] (by decide +kernel) (by decide +kernel)
set_option maxRecDepth 20000 in
theorem gL_law_X2_starving : GoodIn wsL_law (wsV RL 137 RX2 yX2_starving wsX2_starving) := goodIn_app (goodIn_of _ (by decide +kernel)) ggL_law_X2_starving
set_option maxRecDepth 20000 in
theorem ggL_law_X1_letIn : GoodIn wsL_law wsX1_letIn := goodIn_r _ [365, 16, 228, 656, 657, 666, 667, 668, 669, 670, 671, 672, 673, 674, 675, 676, 677, 678, 679, 680, 681, 682] (by decide +kernel) (by decide +kernel)
set_option maxRecDepth 20000 in
theorem gL_law_X1_letIn : GoodIn wsL_law (wsV RL 138 RX1 yX1_letIn wsX1_letIn) := goodIn_app (goodIn_of _ (by decide +kernel)) ggL_law_X1_letIn
set_option maxRecDepth 20000 in
theorem ggL_law_X2_letIn : GoodIn wsL_law wsX2_letIn := goodIn_r _ [369, 41, 302, 303, 304, 5, 305, 70, 658, 659, 660, 661, 662, 663, 664, 665] (by decide +kernel) (by decide +kernel)
set_option maxRecDepth 20000 in
theorem gL_law_X2_letIn : GoodIn wsL_law (wsV RL 141 RX2 yX2_letIn wsX2_letIn) := goodIn_app (goodIn_of _ (by decide +kernel)) ggL_law_X2_letIn
set_option maxRecDepth 20000 in
theorem ggL_law_X1_givenUp : GoodIn wsL_law wsX1_givenUp := goodIn_r _ [373, 16, 374, 375, 376, 15, 377, 65, 24, 656, 657, 666, 667, 668, 669, 670, 671, 672, 673, 674, 675, 676, 677, 678, 679, 680, 681, 682] (by decide +kernel) (by decide +kernel)
set_option maxRecDepth 20000 in
theorem gL_law_X1_givenUp : GoodIn wsL_law (wsV RL 142 RX1 yX1_givenUp wsX1_givenUp) := goodIn_app (goodIn_of _ (by decide +kernel)) ggL_law_X1_givenUp
set_option maxRecDepth 20000 in
theorem ggL_law_X2_givenUp : GoodIn wsL_law wsX2_givenUp := goodIn_r _ [381, 41, 302, 303, 304, 5, 305, 70, 658, 659, 660, 661, 662, 663, 664, 665] (by decide +kernel) (by decide +kernel)
set_option maxRecDepth 20000 in
theorem gL_law_X2_givenUp : GoodIn wsL_law (wsV RL 145 RX2 yX2_givenUp wsX2_givenUp) := goodIn_app (goodIn_of _ (by decide +kernel)) ggL_law_X2_givenUp
set_option maxRecDepth 20000 in
theorem ggL_law_L_permitsOf : GoodIn wsL_law wsL_permitsOf := goodIn_ca (goodIn_r _ [384, 108, 385, 386, 387, 2, 388, 16, 113, 120, 121, 122, 123, 118, 119, 57, 656, 657, 666, 667, 668, 669, 670, 671, 672, 673, 674, 675, 676, 677, 678, 679, 680, 681, 682] (by decide +kernel) (by decide +kernel)) (goodIn_sub (fun _ h => List.mem_append_right _ h) (by decide +kernel))
set_option maxRecDepth 20000 in
theorem gL_law_L_permitsOf : GoodIn wsL_law (va_wsS RL 146 yL_permitsOf wsL_permitsOf) := goodIn_app (goodIn_of _ (by decide +kernel)) ggL_law_L_permitsOf
set_option maxRecDepth 20000 in
theorem ggL_law_X2_permitsOf : GoodIn wsL_law wsX2_permitsOf := goodIn_r _ [392, 70, 38, 150, 151, 152, 5, 153, 71, 72, 73, 74, 75, 76, 77, 78, 658, 659, 660, 661, 662, 663, 664, 665] (by decide +kernel) (by decide +kernel)
set_option maxRecDepth 20000 in
theorem gL_law_X2_permitsOf : GoodIn wsL_law (wsV RL 148 RX2 yX2_permitsOf wsX2_permitsOf) := goodIn_app (goodIn_of _ (by decide +kernel)) ggL_law_X2_permitsOf
set_option maxRecDepth 20000 in
theorem ggL_law_L_freeOf : GoodIn wsL_law wsL_freeOf := goodIn_ca (goodIn_r _ [395, 108, 396, 397, 398, 2, 399, 16, 120, 121, 122, 123, 118, 119, 57, 185, 186, 187, 15, 188, 22, 95, 26, 27, 28, 656, 657, 666, 667, 668, 669, 670, 671, 672, 673, 674, 675, 676, 677, 678, 679, 680, 681, 682] (by decide +kernel) (by decide +kernel)) (goodIn_sub (fun _ h => List.mem_append_right _ h) (by decide +kernel))
set_option maxRecDepth 20000 in
theorem gL_law_L_freeOf : GoodIn wsL_law (va_wsS RL 149 yL_freeOf wsL_freeOf) := goodIn_app (goodIn_of _ (by decide +kernel)) ggL_law_L_freeOf
set_option maxRecDepth 20000 in
theorem ggL_law_X2_freeOf : GoodIn wsL_law wsX2_freeOf := goodIn_r _ [403, 70, 150, 151, 152, 5, 153, 71, 72, 73, 74, 197, 198, 199, 200, 38, 104, 154, 155, 156, 157, 158, 159, 160, 161, 41, 75, 76, 77, 78, 658, 659, 660, 661, 662, 663, 664, 665] (by decide +kernel) (by decide +kernel)
set_option maxRecDepth 20000 in
theorem gL_law_X2_freeOf : GoodIn wsL_law (wsV RL 151 RX2 yX2_freeOf wsX2_freeOf) := goodIn_app (goodIn_of _ (by decide +kernel)) ggL_law_X2_freeOf
set_option maxRecDepth 20000 in
theorem ggL_law_L_waitingAt : GoodIn wsL_law wsL_waitingAt := goodIn_ca (goodIn_r _ [406, 108, 407, 408, 409, 2, 410, 16, 120, 121, 122, 123, 118, 119, 57, 134, 135, 136, 15, 137, 95, 138, 139, 140, 141, 26, 27, 656, 657, 666, 667, 668, 669, 670, 671, 672, 673, 674, 675, 676, 677, 678, 679, 680, 681, 682] (by decide +kernel) (by decide +kernel)) (goodIn_sub (fun _ h => List.mem_append_right _ h) (by decide +kernel))
set_option maxRecDepth 20000 in
theorem gL_law_L_waitingAt : GoodIn wsL_law (va_wsS RL 152 yL_waitingAt wsL_waitingAt) := goodIn_app (goodIn_of _ (by decide +kernel)) ggL_law_L_waitingAt
set_option maxRecDepth 20000 in
theorem ggL_law_X2_waitingAt : GoodIn wsL_law wsX2_waitingAt := goodIn_r _ [414, 70, 150, 151, 152, 5, 153, 71, 72, 73, 74, 170, 171, 172, 173, 104, 174, 175, 176, 177, 154, 155, 156, 157, 158, 159, 160, 161, 41, 75, 76, 77, 78, 658, 659, 660, 661, 662, 663, 664, 665] (by decide +kernel) (by decide +kernel)
set_option maxRecDepth 20000 in
theorem gL_law_X2_waitingAt : GoodIn wsL_law (wsV RL 154 RX2 yX2_waitingAt wsX2_waitingAt) := goodIn_app (goodIn_of _ (by decide +kernel)) ggL_law_X2_waitingAt
set_option maxRecDepth 20000 in
theorem ggL_law_L_nextAt : GoodIn wsL_law wsL_nextAt := goodIn_ca (goodIn_r _ [417, 108, 418, 419, 420, 2, 421, 16, 120, 121, 122, 123, 118, 119, 57, 422, 244, 245, 15, 246, 23, 95, 28, 31, 247, 186, 187, 188, 22, 26, 27, 138, 139, 140, 141, 248, 249, 250, 251, 25, 32, 656, 657, 666, 667, 668, 669, 670, 671, 672, 673, 674, 675, 676, 677, 678, 679, 680, 681, 682] (by decide +kernel) (by decide +kernel)) (goodIn_sub (fun _ h => List.mem_append_right _ h) (by decide +kernel))
set_option maxRecDepth 20000 in
theorem gL_law_L_nextAt : GoodIn wsL_law (va_wsS RL 155 yL_nextAt wsL_nextAt) := goodIn_app (goodIn_of _ (by decide +kernel)) ggL_law_L_nextAt
set_option maxRecDepth 20000 in
theorem ggL_law_X2_nextAt : GoodIn wsL_law wsX2_nextAt := goodIn_r _ [426, 70, 150, 151, 152, 5, 153, 71, 72, 73, 74, 277, 278, 279, 280, 39, 104, 197, 198, 199, 200, 38, 154, 155, 156, 157, 158, 159, 160, 161, 41, 281, 282, 283, 284, 174, 175, 176, 177, 285, 286, 287, 288, 40, 75, 76, 77, 78, 658, 659, 660, 661, 662, 663, 664, 665] (by decide +kernel) (by decide +kernel)
set_option maxRecDepth 20000 in
theorem gL_law_X2_nextAt : GoodIn wsL_law (wsV RL 157 RX2 yX2_nextAt wsX2_nextAt) := goodIn_app (goodIn_of _ (by decide +kernel)) ggL_law_X2_nextAt
set_option maxRecDepth 20000 in
theorem ggL_law_L_stateOf : GoodIn wsL_law wsL_stateOf := goodIn_ca (goodIn_r _ [429, 108, 430, 431, 432, 2, 433, 16, 128, 114, 115, 116, 117, 118, 119, 90, 656, 657, 666, 667, 668, 669, 670, 671, 672, 673, 674, 675, 676, 677, 678, 679, 680, 681, 682] (by decide +kernel) (by decide +kernel)) (goodIn_sub (fun _ h => List.mem_append_right _ h) (by decide +kernel))
set_option maxRecDepth 20000 in
theorem gL_law_L_stateOf : GoodIn wsL_law (va_wsS RL 158 yL_stateOf wsL_stateOf) := goodIn_app (goodIn_of _ (by decide +kernel)) ggL_law_L_stateOf
set_option maxRecDepth 20000 in
theorem ggL_law_X2_stateOf : GoodIn wsL_law wsX2_stateOf := goodIn_r _ [437, 70, 146, 147, 148, 5, 149, 104, 72, 73, 74, 158, 159, 160, 161, 41, 75, 76, 77, 78, 658, 659, 660, 661, 662, 663, 664, 665] (by decide +kernel) (by decide +kernel)
set_option maxRecDepth 20000 in
theorem gL_law_X2_stateOf : GoodIn wsL_law (wsV RL 160 RX2 yX2_stateOf wsX2_stateOf) := goodIn_app (goodIn_of _ (by decide +kernel)) ggL_law_X2_stateOf
set_option maxRecDepth 20000 in
theorem ggL_law_L_gateOf : GoodIn wsL_law wsL_gateOf := goodIn_ca (goodIn_r _ [440, 108, 441, 442, 443, 2, 444, 16, 445, 114, 115, 116, 117, 118, 119, 90, 656, 657, 666, 667, 668, 669, 670, 671, 672, 673, 674, 675, 676, 677, 678, 679, 680, 681, 682] (by decide +kernel) (by decide +kernel)) (goodIn_sub (fun _ h => List.mem_append_right _ h) (by decide +kernel))
set_option maxRecDepth 20000 in
theorem gL_law_L_gateOf : GoodIn wsL_law (va_wsS RL 161 yL_gateOf wsL_gateOf) := goodIn_app (goodIn_of _ (by decide +kernel)) ggL_law_L_gateOf
set_option maxRecDepth 20000 in
theorem ggL_law_X2_gateOf : GoodIn wsL_law wsX2_gateOf := goodIn_r _ [449, 70, 146, 147, 148, 5, 149, 104, 72, 73, 74, 450, 451, 452, 453, 154, 155, 156, 157, 158, 159, 160, 161, 41, 75, 76, 77, 78, 658, 659, 660, 661, 662, 663, 664, 665] (by decide +kernel) (by decide +kernel)
set_option maxRecDepth 20000 in
theorem gL_law_X2_gateOf : GoodIn wsL_law (wsV RL 163 RX2 yX2_gateOf wsX2_gateOf) := goodIn_app (goodIn_of _ (by decide +kernel)) ggL_law_X2_gateOf
set_option maxRecDepth 20000 in
theorem ggL_law_L_holds : GoodIn wsL_law wsL_holds := goodIn_ca (goodIn_r _ [456, 108, 457, 458, 459, 2, 460, 16, 114, 115, 116, 117, 118, 119, 90, 208, 209, 210, 15, 211, 26, 28, 656, 657, 666, 667, 668, 669, 670, 671, 672, 673, 674, 675, 676, 677, 678, 679, 680, 681, 682] (by decide +kernel) (by decide +kernel)) (goodIn_sub (fun _ h => List.mem_append_right _ h) (by decide +kernel))
set_option maxRecDepth 20000 in
theorem gL_law_L_holds : GoodIn wsL_law (va_wsS RL 164 yL_holds wsL_holds) := goodIn_app (goodIn_of _ (by decide +kernel)) ggL_law_L_holds
set_option maxRecDepth 20000 in
theorem ggL_law_X2_holds : GoodIn wsL_law wsX2_holds := goodIn_r _ [464, 70, 146, 147, 148, 5, 149, 104, 72, 73, 74, 217, 218, 219, 220, 154, 155, 156, 157, 158, 159, 160, 161, 41, 75, 76, 77, 78, 658, 659, 660, 661, 662, 663, 664, 665] (by decide +kernel) (by decide +kernel)
set_option maxRecDepth 20000 in
theorem gL_law_X2_holds : GoodIn wsL_law (wsV RL 166 RX2 yX2_holds wsX2_holds) := goodIn_app (goodIn_of _ (by decide +kernel)) ggL_law_X2_holds
set_option maxRecDepth 20000 in
theorem ggL_law_L_seemingHorns : GoodIn wsL_law wsL_seemingHorns := goodIn_ca (goodIn_r _ [467, 108, 468, 469, 470, 2, 471, 16, 114, 115, 116, 117, 118, 119, 90, 472, 249, 250, 15, 251, 25, 32, 656, 657, 666, 667, 668, 669, 670, 671, 672, 673, 674, 675, 676, 677, 678, 679, 680, 681, 682] (by decide +kernel) (by decide +kernel)) (goodIn_sub (fun _ h => List.mem_append_right _ h) (by decide +kernel))
set_option maxRecDepth 20000 in
theorem gL_law_L_seemingHorns : GoodIn wsL_law (va_wsS RL 167 yL_seemingHorns wsL_seemingHorns) := goodIn_app (goodIn_of _ (by decide +kernel)) ggL_law_L_seemingHorns
set_option maxRecDepth 20000 in
theorem ggL_law_X2_seemingHorns : GoodIn wsL_law wsX2_seemingHorns := goodIn_r _ [476, 70, 146, 147, 148, 5, 149, 104, 72, 73, 74, 285, 286, 287, 288, 40, 154, 155, 156, 157, 158, 159, 160, 161, 41, 75, 76, 77, 78, 658, 659, 660, 661, 662, 663, 664, 665] (by decide +kernel) (by decide +kernel)
set_option maxRecDepth 20000 in
theorem gL_law_X2_seemingHorns : GoodIn wsL_law (wsV RL 169 RX2 yX2_seemingHorns wsX2_seemingHorns) := goodIn_app (goodIn_of _ (by decide +kernel)) ggL_law_X2_seemingHorns
set_option maxRecDepth 20000 in
theorem ggL_law_L_minutesLeft : GoodIn wsL_law wsL_minutesLeft := goodIn_ca (goodIn_r _ [479, 108, 480, 481, 482, 2, 483, 16, 484, 114, 115, 116, 117, 118, 119, 90, 656, 657, 666, 667, 668, 669, 670, 671, 672, 673, 674, 675, 676, 677, 678, 679, 680, 681, 682] (by decide +kernel) (by decide +kernel)) (goodIn_sub (fun _ h => List.mem_append_right _ h) (by decide +kernel))
set_option maxRecDepth 20000 in
theorem gL_law_L_minutesLeft : GoodIn wsL_law (va_wsS RL 170 yL_minutesLeft wsL_minutesLeft) := goodIn_app (goodIn_of _ (by decide +kernel)) ggL_law_L_minutesLeft
set_option maxRecDepth 20000 in
theorem ggL_law_X2_minutesLeft : GoodIn wsL_law wsX2_minutesLeft := goodIn_r _ [488, 70, 146, 147, 148, 5, 149, 104, 72, 73, 74, 489, 490, 491, 492, 154, 155, 156, 157, 158, 159, 160, 161, 41, 75, 76, 77, 78, 658, 659, 660, 661, 662, 663, 664, 665] (by decide +kernel) (by decide +kernel)
set_option maxRecDepth 20000 in
theorem gL_law_X2_minutesLeft : GoodIn wsL_law (wsV RL 172 RX2 yX2_minutesLeft wsX2_minutesLeft) := goodIn_app (goodIn_of _ (by decide +kernel)) ggL_law_X2_minutesLeft
set_option maxRecDepth 20000 in
theorem ggL_law_L_waitedOf : GoodIn wsL_law wsL_waitedOf := goodIn_ca (goodIn_r _ [495, 108, 496, 497, 498, 2, 499, 16, 500, 114, 115, 116, 117, 118, 119, 90, 656, 657, 666, 667, 668, 669, 670, 671, 672, 673, 674, 675, 676, 677, 678, 679, 680, 681, 682] (by decide +kernel) (by decide +kernel)) (goodIn_sub (fun _ h => List.mem_append_right _ h) (by decide +kernel))
set_option maxRecDepth 20000 in
theorem gL_law_L_waitedOf : GoodIn wsL_law (va_wsS RL 173 yL_waitedOf wsL_waitedOf) := goodIn_app (goodIn_of _ (by decide +kernel)) ggL_law_L_waitedOf
set_option maxRecDepth 20000 in
theorem ggL_law_X2_waitedOf : GoodIn wsL_law wsX2_waitedOf := goodIn_r _ [504, 70, 146, 147, 148, 5, 149, 104, 72, 73, 74, 158, 159, 160, 161, 41, 75, 76, 77, 78, 658, 659, 660, 661, 662, 663, 664, 665] (by decide +kernel) (by decide +kernel)
set_option maxRecDepth 20000 in
theorem gL_law_X2_waitedOf : GoodIn wsL_law (wsV RL 175 RX2 yX2_waitedOf wsX2_waitedOf) := goodIn_app (goodIn_of _ (by decide +kernel)) ggL_law_X2_waitedOf
set_option maxRecDepth 20000 in
theorem ggL_law_L_placeInLine : GoodIn wsL_law wsL_placeInLine := goodIn_ca (goodIn_r _ [507, 108, 508, 509, 510, 2, 511, 16, 128, 114, 115, 116, 117, 118, 119, 90, 512, 513, 514, 15, 515, 95, 27, 31, 138, 139, 140, 141, 26, 656, 657, 666, 667, 668, 669, 670, 671, 672, 673, 674, 675, 676, 677, 678, 679, 680, 681, 682] (by decide +kernel) (by decide +kernel)) (goodIn_sub (fun _ h => List.mem_append_right _ h) (by decide +kernel))
set_option maxRecDepth 20000 in
theorem gL_law_L_placeInLine : GoodIn wsL_law (va_wsS RL 176 yL_placeInLine wsL_placeInLine) := goodIn_app (goodIn_of _ (by decide +kernel)) ggL_law_L_placeInLine
set_option maxRecDepth 20000 in
theorem ggL_law_X2_placeInLine : GoodIn wsL_law wsX2_placeInLine := goodIn_r _ [519, 70, 146, 147, 148, 5, 149, 104, 72, 73, 74, 520, 521, 522, 523, 154, 155, 156, 157, 158, 159, 160, 161, 41, 174, 175, 176, 177, 75, 76, 77, 78, 658, 659, 660, 661, 662, 663, 664, 665] (by decide +kernel) (by decide +kernel)
set_option maxRecDepth 20000 in
theorem gL_law_X2_placeInLine : GoodIn wsL_law (wsV RL 178 RX2 yX2_placeInLine wsX2_placeInLine) := goodIn_app (goodIn_of _ (by decide +kernel)) ggL_law_X2_placeInLine
set_option maxRecDepth 20000 in
theorem ggL_law_L_minutesUntilIn : GoodIn wsL_law wsL_minutesUntilIn := goodIn_ca (goodIn_r _ [526, 108, 527, 528, 529, 2, 530, 17, 16, 128, 114, 115, 116, 117, 118, 119, 90, 531, 532, 533, 15, 534, 233, 65, 95, 133, 242, 22, 23, 24, 25, 26, 27, 28, 29, 30, 31, 32, 33, 229, 230, 231, 232, 234, 235, 236, 237, 96, 97, 98, 99, 238, 239, 240, 241, 243, 244, 245, 246, 247, 186, 187, 188, 138, 139, 140, 141, 248, 249, 250, 251, 252, 190, 191, 192, 253, 254, 255, 256, 656, 657, 666, 667, 668, 669, 670, 671, 672, 673, 674, 675, 676, 677, 678, 679, 680, 681, 682] (by decide +kernel) (by decide +kernel)) (goodIn_sub (fun _ h => List.mem_append_right _ h) (by decide +kernel))
set_option maxRecDepth 20000 in
theorem gL_law_L_minutesUntilIn : GoodIn wsL_law (va_wsS RL 179 yL_minutesUntilIn wsL_minutesUntilIn) := goodIn_app (goodIn_of _ (by decide +kernel)) ggL_law_L_minutesUntilIn
set_option maxRecDepth 20000 in
theorem ggL_law_X2_minutesUntilIn : GoodIn wsL_law wsX2_minutesUntilIn := goodIn_r _ [538, 70, 146, 147, 148, 5, 149, 104, 72, 73, 74, 539, 540, 541, 542, 154, 155, 156, 157, 158, 159, 160, 161, 41, 543, 544, 545, 546, 42, 547, 548, 549, 550, 265, 266, 267, 268, 71, 269, 270, 271, 272, 166, 167, 168, 169, 273, 274, 275, 276, 277, 278, 279, 280, 39, 197, 198, 199, 200, 38, 281, 282, 283, 284, 174, 175, 176, 177, 285, 286, 287, 288, 40, 289, 290, 291, 292, 551, 552, 553, 554, 75, 76, 77, 78, 658, 659, 660, 661, 662, 663, 664, 665] (by decide +kernel) (by decide +kernel)
set_option maxRecDepth 20000 in
theorem gL_law_X2_minutesUntilIn : GoodIn wsL_law (wsV RL 181 RX2 yX2_minutesUntilIn wsX2_minutesUntilIn) := goodIn_app (goodIn_of _ (by decide +kernel)) ggL_law_X2_minutesUntilIn
set_option maxRecDepth 20000 in
theorem ggL_law_L_givingUpIn : GoodIn wsL_law wsL_givingUpIn := goodIn_ca (goodIn_r _ [557, 47, 558, 559, 560, 2, 561, 17, 16, 58, 59, 60, 53, 54, 531, 532, 533, 15, 534, 233, 65, 95, 133, 242, 22, 23, 24, 25, 26, 27, 28, 29, 30, 31, 32, 33, 229, 230, 231, 232, 234, 235, 236, 237, 96, 97, 98, 99, 238, 239, 240, 241, 243, 244, 245, 246, 247, 186, 187, 188, 138, 139, 140, 141, 248, 249, 250, 251, 252, 190, 191, 192, 253, 254, 255, 256, 374, 375, 376, 377, 656, 657, 666, 667, 668, 669, 670, 671, 672, 673, 674, 675, 676, 677, 678, 679, 680, 681, 682] (by decide +kernel) (by decide +kernel)) (goodIn_sub (fun _ h => List.mem_append_left _ (List.mem_append_left _ (List.mem_append_right _ h))) (by decide +kernel))
set_option maxRecDepth 20000 in
theorem gL_law_L_givingUpIn : GoodIn wsL_law (va_wsS RL 182 yL_givingUpIn wsL_givingUpIn) := goodIn_app (goodIn_of _ (by decide +kernel)) ggL_law_L_givingUpIn
set_option maxRecDepth 20000 in
theorem ggL_law_X2_givingUpIn : GoodIn wsL_law wsX2_givingUpIn := goodIn_r _ [565, 70, 41, 42, 72, 73, 5, 74, 75, 76, 77, 78, 543, 544, 545, 546, 547, 548, 549, 550, 261, 262, 263, 264, 265, 266, 267, 268, 104, 71, 269, 270, 271, 272, 154, 155, 156, 157, 158, 159, 160, 161, 166, 167, 168, 169, 273, 274, 275, 276, 277, 278, 279, 280, 39, 197, 198, 199, 200, 38, 281, 282, 283, 284, 174, 175, 176, 177, 285, 286, 287, 288, 40, 289, 290, 291, 292, 551, 552, 553, 554, 658, 659, 660, 661, 662, 663, 664, 665] (by decide +kernel) (by decide +kernel)
set_option maxRecDepth 20000 in
theorem gL_law_X2_givingUpIn : GoodIn wsL_law (wsV RL 184 RX2 yX2_givingUpIn wsX2_givingUpIn) := goodIn_app (goodIn_of _ (by decide +kernel)) ggL_law_X2_givingUpIn
set_option maxRecDepth 20000 in
theorem ggL_law_L_permitsWanted : GoodIn wsL_law wsL_permitsWanted := goodIn_ca (goodIn_r _ [568, 108, 569, 570, 571, 2, 572, 16, 113, 573, 120, 121, 122, 123, 118, 119, 57, 574, 575, 576, 577, 17, 578, 531, 532, 533, 15, 534, 233, 65, 95, 133, 242, 22, 23, 24, 25, 26, 27, 28, 29, 30, 31, 32, 33, 134, 135, 136, 137, 138, 139, 140, 141, 229, 230, 231, 232, 234, 235, 236, 237, 96, 97, 98, 99, 238, 239, 240, 241, 243, 244, 245, 246, 247, 186, 187, 188, 248, 249, 250, 251, 252, 190, 191, 192, 253, 254, 255, 256, 656, 657, 666, 667, 668, 669, 670, 671, 672, 673, 674, 675, 676, 677, 678, 679, 680, 681, 682] (by decide +kernel) (by decide +kernel)) (goodIn_sub (fun _ h => List.mem_append_right _ h) (by decide +kernel))
set_option maxRecDepth 20000 in
theorem gL_law_L_permitsWanted : GoodIn wsL_law (va_wsS RL 185 yL_permitsWanted wsL_permitsWanted) := goodIn_app (goodIn_of _ (by decide +kernel)) ggL_law_L_permitsWanted
set_option maxRecDepth 20000 in
theorem ggL_law_X2_permitsWanted : GoodIn wsL_law wsX2_permitsWanted := goodIn_r _ [582, 70, 150, 151, 152, 5, 153, 71, 72, 73, 74, 583, 584, 585, 586, 38, 587, 588, 589, 590, 104, 174, 175, 176, 177, 154, 155, 156, 157, 158, 159, 160, 161, 41, 543, 544, 545, 546, 42, 547, 548, 549, 550, 265, 266, 267, 268, 269, 270, 271, 272, 166, 167, 168, 169, 273, 274, 275, 276, 277, 278, 279, 280, 39, 197, 198, 199, 200, 281, 282, 283, 284, 285, 286, 287, 288, 40, 289, 290, 291, 292, 551, 552, 553, 554, 75, 76, 77, 78, 658, 659, 660, 661, 662, 663, 664, 665] (by decide +kernel) (by decide +kernel)
set_option maxRecDepth 20000 in
theorem gL_law_X2_permitsWanted : GoodIn wsL_law (wsV RL 187 RX2 yX2_permitsWanted wsX2_permitsWanted) := goodIn_app (goodIn_of _ (by decide +kernel)) ggL_law_X2_permitsWanted
set_option maxRecDepth 20000 in
theorem ggL_law_L_bestOrder : GoodIn wsL_law wsL_bestOrder := goodIn_ca (goodIn_r _ [593, 108, 594, 595, 596, 2, 597, 16, 113, 120, 121, 122, 123, 118, 119, 57, 574, 575, 576, 577, 17, 573, 578, 531, 532, 533, 15, 534, 233, 65, 95, 133, 242, 22, 23, 24, 25, 26, 27, 28, 29, 30, 31, 32, 33, 134, 135, 136, 137, 138, 139, 140, 141, 229, 230, 231, 232, 234, 235, 236, 237, 96, 97, 98, 99, 238, 239, 240, 241, 243, 244, 245, 246, 247, 186, 187, 188, 248, 249, 250, 251, 252, 190, 191, 192, 253, 254, 255, 256, 656, 657, 666, 667, 668, 669, 670, 671, 672, 673, 674, 675, 676, 677, 678, 679, 680, 681, 682] (by decide +kernel) (by decide +kernel)) (goodIn_sub (fun _ h => List.mem_append_right _ h) (by decide +kernel))
set_option maxRecDepth 20000 in
theorem gL_law_L_bestOrder : GoodIn wsL_law (va_wsS RL 188 yL_bestOrder wsL_bestOrder) := goodIn_app (goodIn_of _ (by decide +kernel)) ggL_law_L_bestOrder
set_option maxRecDepth 20000 in
theorem ggL_law_X2_bestOrder : GoodIn wsL_law wsX2_bestOrder := goodIn_r _ [601, 70, 150, 151, 152, 5, 153, 71, 72, 73, 74, 602, 603, 604, 605, 606, 607, 608, 609, 39, 587, 588, 589, 590, 104, 174, 175, 176, 177, 154, 155, 156, 157, 158, 159, 160, 161, 41, 543, 544, 545, 546, 42, 547, 548, 549, 550, 265, 266, 267, 268, 269, 270, 271, 272, 166, 167, 168, 169, 273, 274, 275, 276, 277, 278, 279, 280, 197, 198, 199, 200, 38, 281, 282, 283, 284, 285, 286, 287, 288, 40, 289, 290, 291, 292, 551, 552, 553, 554, 75, 76, 77, 78, 658, 659, 660, 661, 662, 663, 664, 665] (by decide +kernel) (by decide +kernel)
set_option maxRecDepth 20000 in
theorem gL_law_X2_bestOrder : GoodIn wsL_law (wsV RL 190 RX2 yX2_bestOrder wsX2_bestOrder) := goodIn_app (goodIn_of _ (by decide +kernel)) ggL_law_X2_bestOrder
set_option maxRecDepth 20000 in
theorem ggL_law_X1_meanWaited : GoodIn wsL_law wsX1_meanWaited := goodIn_r _ [613, 16, 90, 614, 615, 616, 15, 617, 95, 33, 656, 657, 666, 667, 668, 669, 670, 671, 672, 673, 674, 675, 676, 677, 678, 679, 680, 681, 682] (by decide +kernel) (by decide +kernel)
set_option maxRecDepth 20000 in
theorem gL_law_X1_meanWaited : GoodIn wsL_law (wsV RL 191 RX1 yX1_meanWaited wsX1_meanWaited) := goodIn_app (goodIn_of _ (by decide +kernel)) ggL_law_X1_meanWaited
set_option maxRecDepth 20000 in
theorem ggL_law_X2_meanWaited : GoodIn wsL_law wsX2_meanWaited := goodIn_r _ [621, 70, 104, 158, 159, 160, 5, 161, 41, 658, 659, 660, 661, 662, 663, 664, 665] (by decide +kernel) (by decide +kernel)
set_option maxRecDepth 20000 in
theorem gL_law_X2_meanWaited : GoodIn wsL_law (wsV RL 195 RX2 yX2_meanWaited wsX2_meanWaited) := goodIn_app (goodIn_of _ (by decide +kernel)) ggL_law_X2_meanWaited
set_option maxRecDepth 20000 in
theorem ggL_law_X1_digest : GoodIn wsL_law wsX1_digest := goodIn_ca (goodIn_r _ [625, 626, 627, 16, 57, 90, 628, 294, 295, 2, 296, 297, 629, 307, 308, 309, 630, 315, 316, 317, 631, 323, 324, 325, 326, 327, 328, 15, 329, 95, 26, 632, 339, 340, 341, 633, 347, 348, 349, 350, 351, 352, 353, 32, 634, 363, 364, 365, 228, 635, 371, 372, 373, 374, 375, 376, 377, 65, 24, 636, 386, 387, 388, 113, 120, 121, 122, 123, 118, 119, 637, 397, 398, 399, 185, 186, 187, 188, 22, 27, 28, 638, 408, 409, 410, 134, 135, 136, 137, 138, 139, 140, 141, 639, 419, 420, 421, 422, 244, 245, 246, 23, 31, 247, 248, 249, 250, 251, 25, 640, 570, 571, 572, 573, 574, 575, 576, 577, 17, 578, 531, 532, 533, 534, 233, 133, 242, 29, 30, 33, 229, 230, 231, 232, 234, 235, 236, 237, 96, 97, 98, 99, 238, 239, 240, 241, 243, 252, 190, 191, 192, 253, 254, 255, 256, 641, 595, 596, 597, 642, 431, 432, 433, 128, 114, 115, 116, 117, 643, 442, 443, 444, 445, 644, 458, 459, 460, 208, 209, 210, 211, 645, 469, 470, 471, 472, 646, 481, 482, 483, 484, 647, 497, 498, 499, 500, 648, 509, 510, 511, 512, 513, 514, 515, 649, 528, 529, 530, 656, 657, 666, 667, 668, 669, 670, 671, 672, 673, 674, 675, 676, 677, 678, 679, 680, 681, 682] (by decide +kernel) (by decide +kernel)) (goodIn_sub (fun _ h => List.mem_append_right _ h) (by decide +kernel))
set_option maxRecDepth 20000 in
theorem gL_law_X1_digest : GoodIn wsL_law (wsV RL 196 RX1 yX1_digest wsX1_digest) := goodIn_app (goodIn_of _ (by decide +kernel)) ggL_law_X1_digest
set_option maxRecDepth 20000 in
theorem ggL_law_X2_digest : GoodIn wsL_law wsX2_digest := goodIn_r _ [653, 70, 21, 41, 71, 104, 654, 655, 38, 334, 335, 336, 5, 337, 154, 155, 156, 157, 158, 159, 160, 161, 358, 359, 360, 361, 197, 198, 199, 200, 170, 171, 172, 173, 174, 175, 176, 177, 277, 278, 279, 280, 39, 281, 282, 283, 284, 285, 286, 287, 288, 40, 583, 584, 585, 586, 587, 588, 589, 590, 543, 544, 545, 546, 42, 547, 548, 549, 550, 265, 266, 267, 268, 269, 270, 271, 272, 166, 167, 168, 169, 273, 274, 275, 276, 289, 290, 291, 292, 551, 552, 553, 554, 602, 603, 604, 605, 606, 607, 608, 609, 450, 451, 452, 453, 217, 218, 219, 220, 489, 490, 491, 492, 520, 521, 522, 523, 539, 540, 541, 542, 658, 659, 660, 661, 662, 663, 664, 665] (by decide +kernel) (by decide +kernel)
