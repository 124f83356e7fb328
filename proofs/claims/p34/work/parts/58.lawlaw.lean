set_option maxRecDepth 20000 in
theorem ggL_law_X1_init : GoodIn wsL_law wsX1_init := goodIn_r _ [8, 9, 10, 11, 12, 13, 14, 15, 16, 17, 18, 19, 3, 20, 21, 22, 23, 24, 25, 26, 27, 28, 29, 30, 31, 437, 438, 439, 440, 441, 442, 443, 444, 445, 446, 447, 448, 449, 450, 451, 452, 453, 429, 430] (by decide +kernel) (by decide +kernel)
set_option maxRecDepth 20000 in
theorem gL_law_X1_init : GoodIn wsL_law (wsX1_init) := ggL_law_X1_init
set_option maxRecDepth 20000 in
theorem ggL_law_L_build : GoodIn wsL_law wsL_build := goodIn_cons (List.mem_of_getElem? (i := 35) rfl) rfl (goodIn_app (goodIn_app (goodIn_app (goodIn_app (goodIn_app (goodIn_app (goodIn_app (goodIn_r _ [36, 37, 38, 39, 40, 41, 42, 10, 11, 43, 44, 45, 46, 47, 48, 34, 49, 50, 51, 52, 53, 54, 55, 56] (by decide +kernel) (by decide +kernel)) (goodIn_app (goodIn_cons (List.mem_of_getElem? (i := 57) rfl) rfl (goodIn_r _ [58, 5, 4, 3, 59, 60, 61, 62, 63, 64, 65, 2, 66, 67, 68, 69, 70, 15, 71, 72, 73, 74, 75] (by decide +kernel) (by decide +kernel))) (goodIn_r _ [76, 77, 14, 78, 79, 20, 21, 80, 81, 82, 83, 84, 85, 86, 87, 88, 89, 23, 90, 91, 92, 93, 24, 25, 28, 30, 94, 95, 96, 97, 98, 99, 100, 101, 102, 103, 104, 105, 106, 107, 108, 109, 110, 111, 112, 113, 114, 115, 116, 117, 118, 119, 120, 121, 122, 123, 124, 26, 27, 29, 125, 126, 127, 128, 129, 130, 131, 132, 133, 134, 135, 136, 137, 138, 139, 140, 141, 142, 143, 144, 145, 146, 147, 148, 149, 150, 151, 152, 153, 154, 155, 156, 157, 158, 159, 160, 161, 162, 163, 164, 165, 166, 167, 168, 169, 170, 171, 172, 173, 174, 175, 176, 177, 178, 179, 180, 181, 182, 183, 184, 185, 186, 187, 188, 189, 190, 191, 192, 193, 194, 195, 196, 197, 198, 31, 22, 199, 200, 201, 202, 203, 204, 205, 206, 207, 208, 209, 210, 211, 212, 213, 214, 215, 216, 217, 218, 219] (by decide +kernel) (by decide +kernel)))) (goodIn_r _ [431, 432, 433, 434, 435, 436] (by decide +kernel) (by decide +kernel))) (goodIn_r _ [429, 430] (by decide +kernel) (by decide +kernel))) (goodIn_r _ [437, 438, 439, 440, 441, 442, 443, 444, 445, 446, 447, 448, 449, 450, 451, 452, 453] (by decide +kernel) (by decide +kernel))) (goodIn_sub (fun _ h => List.mem_append_left _ (List.mem_append_left _ (List.mem_append_right _ h))) (by decide +kernel))) (goodIn_sub (fun _ h => List.mem_append_left _ (List.mem_append_right _ h)) (by decide +kernel))) (goodIn_sub (fun _ h => List.mem_append_right _ h) (by decide +kernel)))
set_option maxRecDepth 20000 in
theorem gL_law_L_build : GoodIn wsL_law (va_wsS RL 75 yL_build wsL_build) := goodIn_app (goodIn_of _ (by decide +kernel)) ggL_law_L_build
set_option maxRecDepth 20000 in
theorem ggL_law_L_cell : GoodIn wsL_law wsL_cell := goodIn_r _ [49, 50] (by decide +kernel) (by decide +kernel)
set_option maxRecDepth 20000 in
theorem gL_law_L_cell : GoodIn wsL_law (va_wsS RL 65 yL_cell wsL_cell) := goodIn_app (goodIn_of _ (by decide +kernel)) ggL_law_L_cell
set_option maxRecDepth 20000 in
theorem ggL_law_L_act : GoodIn wsL_law wsL_act := goodIn_cons (List.mem_of_getElem? (i := 57) rfl) rfl (goodIn_app (goodIn_app (goodIn_app (goodIn_r _ [58, 5, 4, 3, 59, 51, 52, 34, 53, 54, 60, 61, 38, 62, 43, 63, 64, 65, 2, 66, 67, 68, 69, 70, 15, 71, 72, 73, 74, 75, 76, 77, 14, 78, 79, 20, 21, 80, 81, 82, 83, 84, 85, 86, 87, 88, 89, 23, 90, 91, 92, 93, 24, 25, 28, 30, 94, 95, 96, 97, 45, 46, 98, 99, 100, 101, 102, 103, 104, 105, 106, 107, 108, 109, 110, 111, 112, 113, 114, 115, 116, 117, 118, 119, 120, 121, 122, 123, 124, 26, 27, 29, 125, 126, 127, 128, 129, 130, 131, 132, 133, 134, 135, 136, 137, 44, 138, 139, 140, 141, 142, 143, 144, 145, 146, 147, 148, 149, 150, 151, 152, 153, 154, 155, 156, 157, 158, 159, 160, 161, 162, 163, 164, 165, 166, 167, 168, 169, 170, 171, 172, 173, 174, 175, 176, 177, 178, 179, 180, 181, 182, 183, 184, 185, 186, 187, 188, 189, 190, 191, 192, 193, 194, 195, 196, 197, 198, 31, 22, 199, 200, 201, 202, 203, 204, 205, 206, 207, 208, 209, 210, 211, 212, 213, 214, 215, 216, 217, 218, 219, 431, 432, 433, 434, 435, 436, 429, 430, 437, 438, 439, 440, 441, 442, 443, 444, 445, 446, 447, 448, 449, 450, 451, 452, 453] (by decide +kernel) (by decide +kernel)) (goodIn_sub (fun _ h => List.mem_append_left _ (List.mem_append_left _ (List.mem_append_right _ h))) (by decide +kernel))) (goodIn_sub (fun _ h => List.mem_append_left _ (List.mem_append_right _ h)) (by decide +kernel))) (goodIn_sub (fun _ h => List.mem_append_right _ h) (by decide +kernel)))
set_option maxRecDepth 20000 in
theorem gL_law_L_act : GoodIn wsL_law (va_wsS RL 70 yL_act wsL_act) := goodIn_app (goodIn_of _ (by decide +kernel)) ggL_law_L_act
set_option maxRecDepth 20000 in
theorem ggL_law_X1_digest : GoodIn wsL_law wsX1_digest := goodIn_ca (goodIn_r _ [223, 224, 225, 15, 71, 84, 226, 227, 228, 2, 229, 230, 231, 232, 233, 234, 235, 236, 237, 238, 239, 240, 241, 242, 243, 244, 245, 14, 246, 89, 24, 247, 248, 249, 250, 251, 252, 253, 254, 255, 256, 257, 258, 30, 259, 260, 261, 262, 170, 263, 264, 265, 266, 267, 268, 269, 270, 79, 22, 271, 272, 273, 274, 105, 112, 113, 114, 115, 110, 111, 275, 276, 277, 278, 142, 143, 144, 145, 20, 25, 26, 279, 280, 281, 282, 126, 127, 128, 129, 130, 131, 132, 133, 283, 284, 285, 286, 287, 186, 187, 188, 21, 29, 189, 190, 191, 192, 193, 23, 288, 289, 290, 291, 292, 293, 294, 295, 296, 16, 297, 298, 299, 300, 301, 175, 125, 184, 27, 28, 31, 171, 172, 173, 174, 176, 177, 178, 179, 90, 91, 92, 93, 180, 181, 182, 183, 185, 194, 147, 148, 149, 195, 196, 197, 198, 302, 303, 304, 305, 306, 307, 308, 309, 120, 106, 107, 108, 109, 310, 311, 312, 313, 314, 315, 316, 317, 318, 161, 162, 163, 164, 319, 320, 321, 322, 323, 324, 325, 326, 327, 328, 329, 330, 331, 332, 333, 334, 335, 336, 337, 338, 339, 340, 341, 342, 343, 344, 345, 429, 430, 437, 438, 439, 440, 441, 442, 443, 444, 445, 446, 447, 448, 449, 450, 451, 452, 453] (by decide +kernel) (by decide +kernel)) (goodIn_sub (fun _ h => List.mem_append_right _ h) (by decide +kernel))
set_option maxRecDepth 20000 in
theorem gL_law_X1_digest : GoodIn wsL_law (wsV RL 79 RX1 yX1_digest wsX1_digest) := goodIn_app (goodIn_of _ (by decide +kernel)) ggL_law_X1_digest
set_option maxRecDepth 20000 in
theorem ggL_law_X1_goats : GoodIn wsL_law wsX1_goats := goodIn_r _ [238, 15, 84, 429, 430, 437, 438, 439, 440, 441, 442, 443, 444, 445, 446, 447, 448, 449, 450, 451, 452, 453] (by decide +kernel) (by decide +kernel)
set_option maxRecDepth 20000 in
theorem gL_law_X1_goats : GoodIn wsL_law (wsV RL 83 RX1 yX1_goats wsX1_goats) := goodIn_app (goodIn_of _ (by decide +kernel)) ggL_law_X1_goats
set_option maxRecDepth 20000 in
theorem ggL_law_X1_gates : GoodIn wsL_law wsX1_gates := goodIn_r _ [234, 15, 71, 429, 430, 437, 438, 439, 440, 441, 442, 443, 444, 445, 446, 447, 448, 449, 450, 451, 452, 453] (by decide +kernel) (by decide +kernel)
set_option maxRecDepth 20000 in
theorem gL_law_X1_gates : GoodIn wsL_law (wsV RL 86 RX1 yX1_gates wsX1_gates) := goodIn_app (goodIn_of _ (by decide +kernel)) ggL_law_X1_gates
set_option maxRecDepth 20000 in
theorem ggL_law_X1_stateOf : GoodIn wsL_law wsX1_stateOf := goodIn_ca (goodIn_r _ [309, 15, 120, 106, 107, 108, 2, 109, 110, 111, 84, 429, 430, 437, 438, 439, 440, 441, 442, 443, 444, 445, 446, 447, 448, 449, 450, 451, 452, 453] (by decide +kernel) (by decide +kernel)) (goodIn_sub (fun _ h => List.mem_append_right _ h) (by decide +kernel))
set_option maxRecDepth 20000 in
theorem gL_law_X1_stateOf : GoodIn wsL_law (wsV RL 88 RX1 yX1_stateOf wsX1_stateOf) := goodIn_app (goodIn_of _ (by decide +kernel)) ggL_law_X1_stateOf
set_option maxRecDepth 20000 in
theorem ggL_law_X1_minutesUntilIn : GoodIn wsL_law wsX1_minutesUntilIn := goodIn_ca (goodIn_r _ [345, 16, 15, 120, 106, 107, 108, 2, 109, 110, 111, 84, 298, 299, 300, 14, 301, 175, 79, 89, 125, 184, 20, 21, 22, 23, 24, 25, 26, 27, 28, 29, 30, 31, 171, 172, 173, 174, 176, 177, 178, 179, 90, 91, 92, 93, 180, 181, 182, 183, 185, 186, 187, 188, 189, 143, 144, 145, 130, 131, 132, 133, 190, 191, 192, 193, 194, 147, 148, 149, 195, 196, 197, 198, 429, 430, 437, 438, 439, 440, 441, 442, 443, 444, 445, 446, 447, 448, 449, 450, 451, 452, 453] (by decide +kernel) (by decide +kernel)) (goodIn_sub (fun _ h => List.mem_append_right _ h) (by decide +kernel))
set_option maxRecDepth 20000 in
theorem gL_law_X1_minutesUntilIn : GoodIn wsL_law (wsV RL 91 RX1 yX1_minutesUntilIn wsX1_minutesUntilIn) := goodIn_app (goodIn_of _ (by decide +kernel)) ggL_law_X1_minutesUntilIn
set_option maxRecDepth 20000 in
theorem ggL_law_X1_gateOf : GoodIn wsL_law wsX1_gateOf := goodIn_ca (goodIn_r _ [313, 15, 314, 106, 107, 108, 2, 109, 110, 111, 84, 429, 430, 437, 438, 439, 440, 441, 442, 443, 444, 445, 446, 447, 448, 449, 450, 451, 452, 453] (by decide +kernel) (by decide +kernel)) (goodIn_sub (fun _ h => List.mem_append_right _ h) (by decide +kernel))
set_option maxRecDepth 20000 in
theorem gL_law_X1_gateOf : GoodIn wsL_law (wsV RL 94 RX1 yX1_gateOf wsX1_gateOf) := goodIn_app (goodIn_of _ (by decide +kernel)) ggL_law_X1_gateOf
set_option maxRecDepth 20000 in
theorem ggL_law_X1_holds : GoodIn wsL_law wsX1_holds := goodIn_ca (goodIn_r _ [318, 15, 106, 107, 108, 2, 109, 110, 111, 84, 161, 162, 163, 14, 164, 24, 26, 429, 430, 437, 438, 439, 440, 441, 442, 443, 444, 445, 446, 447, 448, 449, 450, 451, 452, 453] (by decide +kernel) (by decide +kernel)) (goodIn_sub (fun _ h => List.mem_append_right _ h) (by decide +kernel))
set_option maxRecDepth 20000 in
theorem gL_law_X1_holds : GoodIn wsL_law (wsV RL 97 RX1 yX1_holds wsX1_holds) := goodIn_app (goodIn_of _ (by decide +kernel)) ggL_law_X1_holds
set_option maxRecDepth 20000 in
theorem ggL_law_X1_minutesLeft : GoodIn wsL_law wsX1_minutesLeft := goodIn_ca (goodIn_r _ [327, 15, 328, 106, 107, 108, 2, 109, 110, 111, 84, 429, 430, 437, 438, 439, 440, 441, 442, 443, 444, 445, 446, 447, 448, 449, 450, 451, 452, 453] (by decide +kernel) (by decide +kernel)) (goodIn_sub (fun _ h => List.mem_append_right _ h) (by decide +kernel))
set_option maxRecDepth 20000 in
theorem gL_law_X1_minutesLeft : GoodIn wsL_law (wsV RL 100 RX1 yX1_minutesLeft wsX1_minutesLeft) := goodIn_app (goodIn_of _ (by decide +kernel)) ggL_law_X1_minutesLeft
set_option maxRecDepth 20000 in
theorem ggL_law_X1_placeInLine : GoodIn wsL_law wsX1_placeInLine := goodIn_ca (goodIn_r _ [337, 15, 120, 106, 107, 108, 2, 109, 110, 111, 84, 338, 339, 340, 14, 341, 89, 25, 29, 130, 131, 132, 133, 24, 429, 430, 437, 438, 439, 440, 441, 442, 443, 444, 445, 446, 447, 448, 449, 450, 451, 452, 453] (by decide +kernel) (by decide +kernel)) (goodIn_sub (fun _ h => List.mem_append_right _ h) (by decide +kernel))
set_option maxRecDepth 20000 in
theorem gL_law_X1_placeInLine : GoodIn wsL_law (wsV RL 103 RX1 yX1_placeInLine wsX1_placeInLine) := goodIn_app (goodIn_of _ (by decide +kernel)) ggL_law_X1_placeInLine
set_option maxRecDepth 20000 in
theorem ggL_law_X1_waiting : GoodIn wsL_law wsX1_waiting := goodIn_r _ [242, 15, 243, 244, 245, 14, 246, 89, 24, 429, 430, 437, 438, 439, 440, 441, 442, 443, 444, 445, 446, 447, 448, 449, 450, 451, 452, 453] (by decide +kernel) (by decide +kernel)
set_option maxRecDepth 20000 in
theorem gL_law_X1_waiting : GoodIn wsL_law (wsV RL 106 RX1 yX1_waiting wsX1_waiting) := goodIn_app (goodIn_of _ (by decide +kernel)) ggL_law_X1_waiting
set_option maxRecDepth 20000 in
theorem ggL_law_X1_inside : GoodIn wsL_law wsX1_inside := goodIn_r _ [250, 15, 243, 244, 245, 14, 246, 89, 24, 429, 430, 437, 438, 439, 440, 441, 442, 443, 444, 445, 446, 447, 448, 449, 450, 451, 452, 453] (by decide +kernel) (by decide +kernel)
set_option maxRecDepth 20000 in
theorem gL_law_X1_inside : GoodIn wsL_law (wsV RL 109 RX1 yX1_inside wsX1_inside) := goodIn_app (goodIn_of _ (by decide +kernel)) ggL_law_X1_inside
set_option maxRecDepth 20000 in
theorem ggL_law_X1_starving : GoodIn wsL_law wsX1_starving := goodIn_r _ [254, 15, 255, 256, 257, 14, 258, 89, 24, 30, 429, 430, 437, 438, 439, 440, 441, 442, 443, 444, 445, 446, 447, 448, 449, 450, 451, 452, 453] (by decide +kernel) (by decide +kernel)
set_option maxRecDepth 20000 in
theorem gL_law_X1_starving : GoodIn wsL_law (wsV RL 112 RX1 yX1_starving wsX1_starving) := goodIn_app (goodIn_of _ (by decide +kernel)) ggL_law_X1_starving
set_option maxRecDepth 20000 in
theorem ggL_law_X1_nextAt : GoodIn wsL_law wsX1_nextAt := goodIn_ca (goodIn_r _ [286, 15, 112, 113, 114, 2, 115, 110, 111, 71, 287, 186, 187, 14, 188, 21, 89, 26, 29, 189, 143, 144, 145, 20, 24, 25, 130, 131, 132, 133, 190, 191, 192, 193, 23, 30, 429, 430, 437, 438, 439, 440, 441, 442, 443, 444, 445, 446, 447, 448, 449, 450, 451, 452, 453] (by decide +kernel) (by decide +kernel)) (goodIn_sub (fun _ h => List.mem_append_right _ h) (by decide +kernel))
set_option maxRecDepth 20000 in
theorem gL_law_X1_nextAt : GoodIn wsL_law (wsV RL 115 RX1 yX1_nextAt wsX1_nextAt) := goodIn_app (goodIn_of _ (by decide +kernel)) ggL_law_X1_nextAt
set_option maxRecDepth 20000 in
theorem ggL_law_X1_permitsWanted : GoodIn wsL_law wsX1_permitsWanted := goodIn_ca (goodIn_r _ [291, 15, 105, 292, 112, 113, 114, 2, 115, 110, 111, 71, 293, 294, 295, 296, 16, 297, 298, 299, 300, 14, 301, 175, 79, 89, 125, 184, 20, 21, 22, 23, 24, 25, 26, 27, 28, 29, 30, 31, 126, 127, 128, 129, 130, 131, 132, 133, 171, 172, 173, 174, 176, 177, 178, 179, 90, 91, 92, 93, 180, 181, 182, 183, 185, 186, 187, 188, 189, 143, 144, 145, 190, 191, 192, 193, 194, 147, 148, 149, 195, 196, 197, 198, 429, 430, 437, 438, 439, 440, 441, 442, 443, 444, 445, 446, 447, 448, 449, 450, 451, 452, 453] (by decide +kernel) (by decide +kernel)) (goodIn_sub (fun _ h => List.mem_append_right _ h) (by decide +kernel))
set_option maxRecDepth 20000 in
theorem gL_law_X1_permitsWanted : GoodIn wsL_law (wsV RL 118 RX1 yX1_permitsWanted wsX1_permitsWanted) := goodIn_app (goodIn_of _ (by decide +kernel)) ggL_law_X1_permitsWanted
set_option maxRecDepth 20000 in
theorem ggL_law_X1_bestOrder : GoodIn wsL_law wsX1_bestOrder := goodIn_ca (goodIn_r _ [305, 15, 105, 112, 113, 114, 2, 115, 110, 111, 71, 293, 294, 295, 296, 16, 292, 297, 298, 299, 300, 14, 301, 175, 79, 89, 125, 184, 20, 21, 22, 23, 24, 25, 26, 27, 28, 29, 30, 31, 126, 127, 128, 129, 130, 131, 132, 133, 171, 172, 173, 174, 176, 177, 178, 179, 90, 91, 92, 93, 180, 181, 182, 183, 185, 186, 187, 188, 189, 143, 144, 145, 190, 191, 192, 193, 194, 147, 148, 149, 195, 196, 197, 198, 429, 430, 437, 438, 439, 440, 441, 442, 443, 444, 445, 446, 447, 448, 449, 450, 451, 452, 453] (by decide +kernel) (by decide +kernel)) (goodIn_sub (fun _ h => List.mem_append_right _ h) (by decide +kernel))
set_option maxRecDepth 20000 in
theorem gL_law_X1_bestOrder : GoodIn wsL_law (wsV RL 121 RX1 yX1_bestOrder wsX1_bestOrder) := goodIn_app (goodIn_of _ (by decide +kernel)) ggL_law_X1_bestOrder
set_option maxRecDepth 20000 in
theorem ggL_law_X1_permitsOf : GoodIn wsL_law wsX1_permitsOf := goodIn_ca (goodIn_r _ [274, 15, 105, 112, 113, 114, 2, 115, 110, 111, 71, 429, 430, 437, 438, 439, 440, 441, 442, 443, 444, 445, 446, 447, 448, 449, 450, 451, 452, 453] (by decide +kernel) (by decide +kernel)) (goodIn_sub (fun _ h => List.mem_append_right _ h) (by decide +kernel))
set_option maxRecDepth 20000 in
theorem gL_law_X1_permitsOf : GoodIn wsL_law (wsV RL 124 RX1 yX1_permitsOf wsX1_permitsOf) := goodIn_app (goodIn_of _ (by decide +kernel)) ggL_law_X1_permitsOf
set_option maxRecDepth 20000 in
theorem ggL_law_X2_lost : GoodIn wsL_law wsX2_lost := goodIn_r _ [364, 44, 46, 365, 366, 367, 38, 368, 369, 37, 209, 207, 208, 370, 371, 372, 373, 374, 43, 45, 375, 40, 41, 42, 10, 11, 376, 61, 62, 377, 378, 379, 380, 203, 204, 205, 206, 210, 211, 212, 213, 214, 135, 136, 137, 215, 216, 217, 218, 154, 155, 156, 3, 98, 99, 100, 219, 151, 152, 153, 431, 432, 433, 434, 435, 436] (by decide +kernel) (by decide +kernel)
set_option maxRecDepth 20000 in
theorem gL_law_X2_lost : GoodIn wsL_law (wsV RL 127 RX2 yX2_lost wsX2_lost) := goodIn_app (goodIn_of _ (by decide +kernel)) ggL_law_X2_lost
set_option maxRecDepth 20000 in
theorem ggL_law_X1_freeOf : GoodIn wsL_law wsX1_freeOf := goodIn_ca (goodIn_r _ [278, 15, 112, 113, 114, 2, 115, 110, 111, 71, 142, 143, 144, 14, 145, 20, 89, 24, 25, 26, 429, 430, 437, 438, 439, 440, 441, 442, 443, 444, 445, 446, 447, 448, 449, 450, 451, 452, 453] (by decide +kernel) (by decide +kernel)) (goodIn_sub (fun _ h => List.mem_append_right _ h) (by decide +kernel))
set_option maxRecDepth 20000 in
theorem gL_law_X1_freeOf : GoodIn wsL_law (wsV RL 131 RX1 yX1_freeOf wsX1_freeOf) := goodIn_app (goodIn_of _ (by decide +kernel)) ggL_law_X1_freeOf
set_option maxRecDepth 20000 in
theorem ggL_law_X1_waitingAt : GoodIn wsL_law wsX1_waitingAt := goodIn_ca (goodIn_r _ [282, 15, 112, 113, 114, 2, 115, 110, 111, 71, 126, 127, 128, 14, 129, 89, 130, 131, 132, 133, 24, 25, 429, 430, 437, 438, 439, 440, 441, 442, 443, 444, 445, 446, 447, 448, 449, 450, 451, 452, 453] (by decide +kernel) (by decide +kernel)) (goodIn_sub (fun _ h => List.mem_append_right _ h) (by decide +kernel))
set_option maxRecDepth 20000 in
theorem gL_law_X1_waitingAt : GoodIn wsL_law (wsV RL 134 RX1 yX1_waitingAt wsX1_waitingAt) := goodIn_app (goodIn_of _ (by decide +kernel)) ggL_law_X1_waitingAt
set_option maxRecDepth 20000 in
theorem ggL_law_X1_seemingHorns : GoodIn wsL_law wsX1_seemingHorns := goodIn_ca (goodIn_r _ [322, 15, 106, 107, 108, 2, 109, 110, 111, 84, 323, 191, 192, 14, 193, 23, 30, 429, 430, 437, 438, 439, 440, 441, 442, 443, 444, 445, 446, 447, 448, 449, 450, 451, 452, 453] (by decide +kernel) (by decide +kernel)) (goodIn_sub (fun _ h => List.mem_append_right _ h) (by decide +kernel))
set_option maxRecDepth 20000 in
theorem gL_law_X1_seemingHorns : GoodIn wsL_law (wsV RL 137 RX1 yX1_seemingHorns wsX1_seemingHorns) := goodIn_app (goodIn_of _ (by decide +kernel)) ggL_law_X1_seemingHorns
set_option maxRecDepth 20000 in
theorem ggL_law_X1_givingUpIn : GoodIn wsL_law wsX1_givingUpIn := goodIn_ca (goodIn_r _ [387, 16, 15, 72, 73, 2, 74, 67, 68, 298, 299, 300, 14, 301, 175, 79, 89, 125, 184, 20, 21, 22, 23, 24, 25, 26, 27, 28, 29, 30, 31, 171, 172, 173, 174, 176, 177, 178, 179, 90, 91, 92, 93, 180, 181, 182, 183, 185, 186, 187, 188, 189, 143, 144, 145, 130, 131, 132, 133, 190, 191, 192, 193, 194, 147, 148, 149, 195, 196, 197, 198, 267, 268, 269, 270, 429, 430, 437, 438, 439, 440, 441, 442, 443, 444, 445, 446, 447, 448, 449, 450, 451, 452, 453] (by decide +kernel) (by decide +kernel)) (goodIn_sub (fun _ h => List.mem_append_left _ (List.mem_append_left _ (List.mem_append_right _ h))) (by decide +kernel))
set_option maxRecDepth 20000 in
theorem gL_law_X1_givingUpIn : GoodIn wsL_law (wsV RL 140 RX1 yX1_givingUpIn wsX1_givingUpIn) := goodIn_app (goodIn_of _ (by decide +kernel)) ggL_law_X1_givingUpIn
set_option maxRecDepth 20000 in
theorem ggL_law_X1_givenUp : GoodIn wsL_law wsX1_givenUp := goodIn_r _ [266, 15, 267, 268, 269, 14, 270, 79, 22, 429, 430, 437, 438, 439, 440, 441, 442, 443, 444, 445, 446, 447, 448, 449, 450, 451, 452, 453] (by decide +kernel) (by decide +kernel)
set_option maxRecDepth 20000 in
theorem gL_law_X1_givenUp : GoodIn wsL_law (wsV RL 143 RX1 yX1_givenUp wsX1_givenUp) := goodIn_app (goodIn_of _ (by decide +kernel)) ggL_law_X1_givenUp
set_option maxRecDepth 20000 in
theorem ggL_law_X1_pass : GoodIn wsL_law wsX1_pass := goodIn_ca (goodIn_r _ [169, 15, 170, 72, 73, 2, 74, 67, 68, 171, 172, 173, 14, 174, 79, 175, 176, 177, 178, 179, 89, 24, 28, 90, 91, 92, 93, 25, 30, 180, 181, 182, 183, 26, 27, 184, 185, 186, 187, 188, 21, 29, 189, 143, 144, 145, 20, 130, 131, 132, 133, 190, 191, 192, 193, 23, 194, 147, 148, 149, 195, 196, 197, 198, 31, 22, 429, 430, 437, 438, 439, 440, 441, 442, 443, 444, 445, 446, 447, 448, 449, 450, 451, 452, 453] (by decide +kernel) (by decide +kernel)) (goodIn_sub (fun _ h => List.mem_append_left _ (List.mem_append_left _ (List.mem_append_right _ h))) (by decide +kernel))
set_option maxRecDepth 20000 in
theorem gL_law_X1_pass : GoodIn wsL_law (wsV RL 58 RX1 yX1_pass wsX1_pass) := goodIn_app (goodIn_of _ (by decide +kernel)) ggL_law_X1_pass
set_option maxRecDepth 20000 in
theorem ggL_law_X2_pass : GoodIn wsL_law wsX2_pass := goodIn_r _ [206, 207, 45, 44, 46, 208, 209, 210, 211, 212, 38, 213, 214, 135, 136, 137, 215, 216, 217, 218, 154, 155, 156, 3, 98, 99, 100, 219, 151, 152, 153, 431, 432, 433, 434, 435, 436] (by decide +kernel) (by decide +kernel)
set_option maxRecDepth 20000 in
theorem gL_law_X2_pass : GoodIn wsL_law (wsV RL 146 RX2 yX2_pass wsX2_pass) := goodIn_app (goodIn_of _ (by decide +kernel)) ggL_law_X2_pass
set_option maxRecDepth 20000 in
theorem ggL_law_X2_isSame : GoodIn wsL_law wsX2_isSame := goodIn_ca (goodIn_r _ [393, 45, 44, 46, 209, 207, 208, 394, 307, 308, 2, 309, 15, 120, 106, 107, 108, 109, 110, 111, 84, 395, 311, 312, 313, 314, 396, 316, 317, 318, 161, 162, 163, 14, 164, 24, 26, 397, 320, 321, 322, 323, 191, 192, 193, 23, 30, 215, 216, 217, 38, 218, 398, 325, 326, 327, 328, 399, 330, 331, 332, 333, 400, 335, 336, 337, 338, 339, 340, 341, 89, 25, 29, 130, 131, 132, 133, 401, 402, 403, 404, 405, 272, 273, 274, 105, 112, 113, 114, 115, 71, 406, 276, 277, 278, 142, 143, 144, 145, 20, 214, 135, 136, 137, 407, 280, 281, 282, 126, 127, 128, 129, 408, 284, 285, 286, 287, 186, 187, 188, 21, 189, 190, 210, 211, 212, 213, 409, 227, 228, 229, 230, 410, 232, 233, 234, 411, 236, 237, 238, 412, 240, 241, 242, 243, 244, 245, 246, 413, 414, 415, 416, 417, 248, 249, 250, 418, 252, 253, 254, 255, 256, 257, 258, 419, 260, 261, 262, 170, 420, 264, 265, 266, 267, 268, 269, 270, 79, 22, 421, 422, 423, 424, 425, 426, 427, 428, 31, 431, 432, 433, 434, 435, 436, 429, 430, 437, 438, 439, 440, 441, 442, 443, 444, 445, 446, 447, 448, 449, 450, 451, 452, 453] (by decide +kernel) (by decide +kernel)) (goodIn_sub (fun _ h => List.mem_append_right _ h) (by decide +kernel))
set_option maxRecDepth 20000 in
theorem gL_law_X2_isSame : GoodIn wsL_law (wsV RL 148 RX2 yX2_isSame wsX2_isSame) := goodIn_app (goodIn_of _ (by decide +kernel)) ggL_law_X2_isSame
