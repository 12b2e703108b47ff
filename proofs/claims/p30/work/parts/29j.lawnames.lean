set_option maxRecDepth 20000 in
theorem gL_isSo_L_broken : GoodIn wsL_isSo (va_wsS RL 113 yL_broken wsL_broken) := goodIn_app (goodIn_of _ (by decide +kernel)) ggL_isSo_L_broken
set_option maxRecDepth 20000 in
theorem ggL_isSo_X6_broken : GoodIn wsL_isSo wsX6_broken := goodIn_r _ [104, 24, 105, 106, 107, 34, 108, 36, 109, 60, 61, 62, 63, 64, 65, 66, 67, 68, 54, 55, 56, 57, 58, 32, 33, 35, 182, 183, 184, 185, 186, 187, 188, 189, 190, 191, 192, 193, 194, 195, 196] (by decide +kernel) (by decide +kernel)
set_option maxRecDepth 20000 in
theorem gL_isSo_X6_broken : GoodIn wsL_isSo (wsV RL 160 RX6 yX6_broken wsX6_broken) := goodIn_app (goodIn_of _ (by decide +kernel)) ggL_isSo_X6_broken
set_option maxRecDepth 20000 in
theorem ggL_isSo_X6_lostValues : GoodIn wsL_isSo wsX6_lostValues := goodIn_r _ [113, 24, 114, 115, 116, 117, 118, 119, 120, 121, 122, 123, 124, 125, 126, 127, 128, 129, 65, 130, 131, 132, 133, 134, 32, 33, 34, 35, 36, 135, 79, 80, 81, 82, 136, 137, 138, 139, 182, 183, 184, 185, 186, 187, 188, 189, 190, 191, 192, 193, 194, 195, 196, 197, 198, 199, 200] (by decide +kernel) (by decide +kernel)
set_option maxRecDepth 20000 in
theorem gL_isSo_X6_lostValues : GoodIn wsL_isSo (wsV RL 163 RX6 yX6_lostValues wsX6_lostValues) := goodIn_app (goodIn_of _ (by decide +kernel)) ggL_isSo_X6_lostValues
set_option maxRecDepth 20000 in
theorem ggL_isSo_L_wholeOf : GoodIn wsL_isSo wsL_wholeOf := goodIn_ca (goodIn_r _ [142, 40, 42, 143, 144, 145, 22, 146, 47, 48, 147, 148, 149, 150, 24, 151, 152, 153, 154, 34, 155, 156, 106, 107, 108, 36, 109, 60, 61, 62, 63, 64, 65, 66, 67, 68, 54, 55, 56, 57, 58, 32, 33, 35, 157, 158, 159, 160, 161, 162, 163, 164, 165, 166, 167, 168, 84, 85, 86, 73, 78, 79, 80, 81, 82, 169, 170, 171, 172, 173, 70, 71, 72, 74, 75, 76, 77, 174, 175, 176, 177, 178, 129, 130, 182, 183, 184, 185, 186, 187, 188, 189, 190, 191, 192, 193, 194, 195, 196, 201, 202, 203, 204, 205, 206, 207] (by decide +kernel) (by decide +kernel)) (goodIn_sub (fun _ h => List.mem_cons_of_mem _ (List.mem_append_right _ h)) (by decide +kernel))
set_option maxRecDepth 20000 in
theorem gL_isSo_L_wholeOf : GoodIn wsL_isSo (va_wsS RL 166 yL_wholeOf wsL_wholeOf) := goodIn_app (goodIn_of _ (by decide +kernel)) ggL_isSo_L_wholeOf
set_option maxRecDepth 20000 in
theorem ggL_isSo_L_inversions : GoodIn wsL_isSo wsL_inversions := goodIn_r _ [181, 5, 6, 3, 7] (by decide +kernel) (by decide +kernel)
set_option maxRecDepth 20000 in
theorem gL_isSo_L_inversions : GoodIn wsL_isSo (va_wsS RL 109 yL_inversions wsL_inversions) := goodIn_app (goodIn_of _ (by decide +kernel)) ggL_isSo_L_inversions
set_option maxRecDepth 20000 in
theorem ggL_law_X6_init : GoodIn wsL_law wsX6_init := goodIn_r _ [11, 12, 13, 14, 15, 16, 17, 18, 19, 20, 21, 22, 23, 24, 25, 26, 27, 28, 29, 30, 31, 32, 33, 34, 4, 35, 3, 36, 37, 38, 39, 40, 41, 42, 43, 44, 45, 46, 47, 48, 49, 50, 51, 52, 429, 430, 431, 432, 433, 434, 435, 436, 437, 438, 424, 425, 426, 427, 428, 439, 440, 441, 442, 443, 444, 445, 446, 447, 448, 449, 450, 451, 452] (by decide +kernel) (by decide +kernel)
set_option maxRecDepth 20000 in
theorem gL_law_X6_init : GoodIn wsL_law (wsX6_init) := ggL_law_X6_init
set_option maxRecDepth 20000 in
theorem ggL_law_L_cell : GoodIn wsL_law wsL_cell := goodIn_r _ [227, 228] (by decide +kernel) (by decide +kernel)
set_option maxRecDepth 20000 in
theorem gL_law_L_cell : GoodIn wsL_law (va_wsS RL 174 yL_cell wsL_cell) := goodIn_app (goodIn_of _ (by decide +kernel)) ggL_law_L_cell
set_option maxRecDepth 20000 in
theorem ggL_law_L_low : GoodIn wsL_law wsL_low := goodIn_r _ [236, 5] (by decide +kernel) (by decide +kernel)
set_option maxRecDepth 20000 in
theorem gL_law_L_low : GoodIn wsL_law (va_wsS RL 74 yL_low wsL_low) := goodIn_app (goodIn_of _ (by decide +kernel)) ggL_law_L_low
set_option maxRecDepth 20000 in
theorem ggL_law_L_wholeOf : GoodIn wsL_law wsL_wholeOf := goodIn_ca (goodIn_r _ [186, 91, 6, 187, 188, 189, 2, 190, 96, 97, 191, 192, 193, 194, 18, 27, 195, 196, 197, 17, 198, 199, 152, 153, 154, 87, 155, 108, 109, 110, 111, 112, 113, 114, 38, 115, 103, 104, 105, 37, 106, 84, 85, 86, 200, 201, 202, 203, 204, 205, 206, 207, 208, 209, 210, 211, 130, 131, 132, 35, 124, 125, 126, 127, 128, 212, 213, 214, 215, 216, 117, 118, 119, 120, 121, 122, 123, 217, 218, 219, 220, 221, 173, 174, 424, 425, 426, 427, 428, 429, 430, 431, 432, 433, 434, 435, 436, 437, 438, 443, 444, 445, 446, 447, 448, 449] (by decide +kernel) (by decide +kernel)) (goodIn_sub (fun _ h => List.mem_append_left _ (List.mem_append_right _ h)) (by decide +kernel))
