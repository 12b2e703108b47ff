set_option maxRecDepth 20000 in
theorem ggL_law_X6_worstSearch : GoodIn wsL_law wsX6_worstSearch := goodIn_r _ [570, 17, 22, 571, 433, 148, 434, 420, 421, 422, 21, 423, 424, 425, 426, 427, 428, 429, 430, 431, 432, 435, 436, 437, 438, 127, 128, 16, 129, 81, 439, 119, 120, 121, 96, 440, 441, 442, 443, 863, 864, 865, 866, 867, 883, 884, 885, 886, 887, 888, 889, 890, 891, 892, 893, 894, 895, 896] (by decide +kernel) (by decide +kernel)
set_option maxRecDepth 20000 in
theorem gL_law_X6_worstSearch : GoodIn wsL_law (wsV RL 140 RX6 yX6_worstSearch wsX6_worstSearch) := goodIn_app (goodIn_of _ (by decide +kernel)) ggL_law_X6_worstSearch
set_option maxRecDepth 20000 in
theorem ggL_law_X7_worstSearch : GoodIn wsL_law wsX7_worstSearch := goodIn_r _ [575, 176, 576, 577, 578, 5, 579, 57, 448, 183, 184, 185, 186, 449, 450, 451, 452, 453, 454, 199, 200, 201, 202, 868, 869, 870, 871, 872, 873, 874, 875, 876, 877, 878, 879, 880, 881, 882] (by decide +kernel) (by decide +kernel)
set_option maxRecDepth 20000 in
theorem gL_law_X7_worstSearch : GoodIn wsL_law (wsV RL 143 RX7 yX7_worstSearch wsX7_worstSearch) := goodIn_app (goodIn_of _ (by decide +kernel)) ggL_law_X7_worstSearch
set_option maxRecDepth 20000 in
theorem ggL_law_L_stepsFor : GoodIn wsL_law wsL_stepsFor := goodIn_ca (goodIn_r _ [582, 237, 583, 584, 585, 2, 586, 18, 17, 322, 323, 324, 325, 242, 243, 326, 327, 328, 16, 329, 587, 89, 90, 91, 34, 92, 93, 94, 95, 36, 37, 81, 38, 96, 97, 98, 99, 100, 330, 331, 332, 333, 334, 134, 135, 136, 137, 138, 139, 140, 141, 142, 143, 144, 145, 146, 147, 148, 149, 150, 123, 124, 125, 126, 127, 128, 129, 151, 152, 153, 154, 155, 156, 157, 158, 159, 160, 161, 162, 118, 119, 120, 121, 163, 164, 165, 166, 863, 864, 865, 866, 867, 883, 884, 885, 886, 887, 888, 889, 890, 891, 892] (by decide +kernel) (by decide +kernel)) (goodIn_sub (fun _ h => List.mem_append_left _ (List.mem_append_right _ h)) (by decide +kernel))
set_option maxRecDepth 20000 in
theorem gL_law_L_stepsFor : GoodIn wsL_law (va_wsS RL 144 yL_stepsFor wsL_stepsFor) := goodIn_app (goodIn_of _ (by decide +kernel)) ggL_law_L_stepsFor
set_option maxRecDepth 20000 in
theorem ggL_law_X7_stepsFor : GoodIn wsL_law wsX7_stepsFor := goodIn_r _ [591, 358, 57, 249, 250, 5, 251, 172, 173, 174, 175, 176, 592, 593, 594, 595, 59, 207, 208, 209, 210, 211, 212, 213, 214, 183, 184, 185, 186, 215, 216, 217, 218, 191, 192, 193, 194, 195, 196, 197, 198, 199, 200, 201, 202, 219, 220, 221, 222, 223, 224, 225, 226, 227, 228, 229, 596, 597, 598, 599, 868, 869, 870, 871, 872, 873, 874, 875, 876, 877, 878, 879, 880, 881, 882] (by decide +kernel) (by decide +kernel)
set_option maxRecDepth 20000 in
theorem gL_law_X7_stepsFor : GoodIn wsL_law (wsV RL 146 RX7 yX7_stepsFor wsX7_stepsFor) := goodIn_app (goodIn_of _ (by decide +kernel)) ggL_law_X7_stepsFor
set_option maxRecDepth 20000 in
theorem ggL_law_X6_bestPlace : GoodIn wsL_law wsX6_bestPlace := goodIn_r _ [603, 17, 18, 77, 78, 79, 16, 80, 81, 587, 89, 90, 91, 34, 92, 93, 94, 95, 36, 37, 38, 96, 97, 98, 99, 100, 101, 102, 103, 104, 105, 106, 107, 108, 109, 110, 111, 112, 113, 114, 115, 116, 117, 118, 119, 120, 121, 335, 336, 337, 338, 339, 340, 341, 342, 343, 344, 345, 346, 146, 147, 148, 149, 150, 123, 124, 125, 126, 127, 128, 129, 347, 348, 349, 350, 351, 352, 353, 310, 164, 165, 166, 159, 160, 161, 162, 863, 864, 865, 866, 867, 883, 884, 885, 886, 887, 888, 889, 890, 891, 892] (by decide +kernel) (by decide +kernel)
set_option maxRecDepth 20000 in
theorem gL_law_X6_bestPlace : GoodIn wsL_law (wsV RL 147 RX6 yX6_bestPlace wsX6_bestPlace) := goodIn_app (goodIn_of _ (by decide +kernel)) ggL_law_X6_bestPlace
set_option maxRecDepth 20000 in
theorem ggL_law_X7_bestPlace : GoodIn wsL_law wsX7_bestPlace := goodIn_r _ [607, 176, 59, 171, 592, 593, 594, 5, 595, 57, 187, 188, 189, 190, 183, 184, 185, 186, 359, 360, 361, 362, 215, 216, 217, 218, 191, 192, 193, 194, 195, 196, 197, 198, 199, 200, 201, 202, 219, 220, 221, 596, 597, 598, 599, 868, 869, 870, 871, 872, 873, 874, 875, 876, 877, 878, 879, 880, 881, 882] (by decide +kernel) (by decide +kernel)
set_option maxRecDepth 20000 in
theorem gL_law_X7_bestPlace : GoodIn wsL_law (wsV RL 150 RX7 yX7_bestPlace wsX7_bestPlace) := goodIn_app (goodIn_of _ (by decide +kernel)) ggL_law_X7_bestPlace
set_option maxRecDepth 20000 in
theorem ggL_law_X6_rankOf : GoodIn wsL_law wsX6_rankOf := goodIn_r _ [611, 17, 612, 119, 120, 16, 121, 96, 863, 864, 865, 866, 867, 883, 884, 885, 886, 887, 888, 889, 890, 891, 892] (by decide +kernel) (by decide +kernel)
set_option maxRecDepth 20000 in
theorem gL_law_X6_rankOf : GoodIn wsL_law (wsV RL 151 RX6 yX6_rankOf wsX6_rankOf) := goodIn_app (goodIn_of _ (by decide +kernel)) ggL_law_X6_rankOf
set_option maxRecDepth 20000 in
theorem ggL_law_X7_rankOf : GoodIn wsL_law wsX7_rankOf := goodIn_r _ [616, 176, 57, 183, 184, 185, 5, 186, 199, 200, 201, 202, 868, 869, 870, 871, 872, 873, 874, 875, 876, 877, 878, 879, 880, 881, 882] (by decide +kernel) (by decide +kernel)
set_option maxRecDepth 20000 in
theorem gL_law_X7_rankOf : GoodIn wsL_law (wsV RL 154 RX7 yX7_rankOf wsX7_rankOf) := goodIn_app (goodIn_of _ (by decide +kernel)) ggL_law_X7_rankOf
set_option maxRecDepth 20000 in
theorem ggL_law_X6_lostValues : GoodIn wsL_law wsX6_lostValues := goodIn_r _ [620, 17, 22, 420, 421, 422, 21, 423, 424, 425, 426, 427, 428, 429, 430, 431, 432, 433, 148, 434, 435, 436, 437, 438, 127, 128, 16, 129, 81, 439, 119, 120, 121, 96, 440, 441, 442, 443, 863, 864, 865, 866, 867, 883, 884, 885, 886, 887, 888, 889, 890, 891, 892, 893, 894, 895, 896] (by decide +kernel) (by decide +kernel)
set_option maxRecDepth 20000 in
theorem gL_law_X6_lostValues : GoodIn wsL_law (wsV RL 155 RX6 yX6_lostValues wsX6_lostValues) := goodIn_app (goodIn_of _ (by decide +kernel)) ggL_law_X6_lostValues
set_option maxRecDepth 20000 in
theorem ggL_law_X7_lostValues : GoodIn wsL_law wsX7_lostValues := goodIn_r _ [624, 176, 625, 626, 627, 5, 628, 57, 183, 184, 185, 186, 449, 450, 451, 452, 448, 453, 454, 199, 200, 201, 202, 868, 869, 870, 871, 872, 873, 874, 875, 876, 877, 878, 879, 880, 881, 882] (by decide +kernel) (by decide +kernel)
set_option maxRecDepth 20000 in
theorem gL_law_X7_lostValues : GoodIn wsL_law (wsV RL 158 RX7 yX7_lostValues wsX7_lostValues) := goodIn_app (goodIn_of _ (by decide +kernel)) ggL_law_X7_lostValues
