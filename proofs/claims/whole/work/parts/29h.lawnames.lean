set_option maxRecDepth 20000 in
theorem ggL_law_X6_setSelf : GoodIn wsL_law wsX6_setSelf := goodIn_r _ [394, 30, 17, 82, 83, 84, 29, 85, 52, 86, 87, 88, 89, 90, 16, 91, 34, 92, 93, 94, 95, 36, 37, 81, 38, 96, 97, 98, 99, 100, 130, 131, 132, 2, 133, 134, 135, 136, 137, 138, 139, 140, 141, 142, 143, 144, 145, 146, 147, 148, 149, 150, 123, 124, 125, 126, 127, 128, 129, 151, 152, 153, 154, 155, 156, 157, 158, 159, 160, 161, 162, 118, 119, 120, 121, 163, 164, 165, 166, 863, 864, 865, 866, 867, 883, 884, 885, 886, 887, 888, 889, 890, 891, 892, 904, 905, 906] (by decide +kernel) (by decide +kernel)
set_option maxRecDepth 20000 in
theorem gL_law_X6_setSelf : GoodIn wsL_law (wsV RL 102 RX6 yX6_setSelf wsX6_setSelf) := goodIn_app (goodIn_of _ (by decide +kernel)) ggL_law_X6_setSelf
set_option maxRecDepth 20000 in
theorem ggL_law_X7_setSelf : GoodIn wsL_law wsX7_setSelf := goodIn_r _ [398, 176, 57, 177, 178, 179, 5, 180, 181, 182, 58, 207, 208, 209, 210, 211, 212, 213, 214, 183, 184, 185, 186, 215, 216, 217, 218, 191, 192, 193, 194, 195, 196, 197, 198, 199, 200, 201, 202, 219, 220, 221, 222, 223, 224, 225, 226, 227, 228, 229, 868, 869, 870, 871, 872, 873, 874, 875, 876, 877, 878, 879, 880, 881, 882] (by decide +kernel) (by decide +kernel)
set_option maxRecDepth 20000 in
theorem gL_law_X7_setSelf : GoodIn wsL_law (wsV RL 105 RX7 yX7_setSelf wsX7_setSelf) := goodIn_app (goodIn_of _ (by decide +kernel)) ggL_law_X7_setSelf
set_option maxRecDepth 20000 in
theorem ggL_law_X6_step : GoodIn wsL_law wsX6_step := goodIn_r _ [402, 30, 17, 82, 83, 84, 29, 85, 52, 86, 87, 88, 89, 90, 16, 91, 34, 92, 93, 94, 95, 36, 37, 81, 38, 96, 97, 98, 99, 100, 403, 139, 140, 141, 142, 143, 144, 145, 146, 147, 148, 149, 150, 123, 124, 125, 126, 127, 128, 129, 151, 152, 153, 154, 155, 156, 157, 158, 159, 160, 161, 162, 118, 119, 120, 121, 163, 164, 165, 166, 863, 864, 865, 866, 867, 904, 905, 906, 883, 884, 885, 886, 887, 888, 889, 890, 891, 892] (by decide +kernel) (by decide +kernel)
set_option maxRecDepth 20000 in
theorem gL_law_X6_step : GoodIn wsL_law (wsV RL 106 RX6 yX6_step wsX6_step) := goodIn_app (goodIn_of _ (by decide +kernel)) ggL_law_X6_step
set_option maxRecDepth 20000 in
theorem ggL_law_X7_step : GoodIn wsL_law wsX7_step := goodIn_r _ [407, 176, 177, 178, 179, 5, 180, 181, 182, 58, 57, 211, 212, 213, 214, 183, 184, 185, 186, 215, 216, 217, 218, 191, 192, 193, 194, 195, 196, 197, 198, 199, 200, 201, 202, 219, 220, 221, 222, 223, 224, 225, 226, 227, 228, 229, 868, 869, 870, 871, 872, 873, 874, 875, 876, 877, 878, 879, 880, 881, 882] (by decide +kernel) (by decide +kernel)
set_option maxRecDepth 20000 in
theorem gL_law_X7_step : GoodIn wsL_law (wsV RL 109 RX7 yX7_step wsX7_step) := goodIn_app (goodIn_of _ (by decide +kernel)) ggL_law_X7_step
set_option maxRecDepth 20000 in
theorem ggL_law_X6_mend : GoodIn wsL_law wsX6_mend := goodIn_r _ [411, 30, 17, 82, 83, 84, 29, 85, 52, 86, 87, 88, 89, 90, 16, 91, 34, 92, 93, 94, 95, 36, 37, 81, 38, 96, 97, 98, 99, 100, 134, 135, 136, 137, 138, 139, 140, 141, 142, 143, 144, 145, 146, 147, 148, 149, 150, 123, 124, 125, 126, 127, 128, 129, 151, 152, 153, 154, 155, 156, 157, 158, 159, 160, 161, 162, 118, 119, 120, 121, 163, 164, 165, 166, 863, 864, 865, 866, 867, 904, 905, 906, 883, 884, 885, 886, 887, 888, 889, 890, 891, 892] (by decide +kernel) (by decide +kernel)
set_option maxRecDepth 20000 in
theorem gL_law_X6_mend : GoodIn wsL_law (wsV RL 110 RX6 yX6_mend wsX6_mend) := goodIn_app (goodIn_of _ (by decide +kernel)) ggL_law_X6_mend
set_option maxRecDepth 20000 in
theorem ggL_law_X7_mend : GoodIn wsL_law wsX7_mend := goodIn_r _ [415, 176, 177, 178, 179, 5, 180, 181, 182, 58, 57, 207, 208, 209, 210, 211, 212, 213, 214, 183, 184, 185, 186, 215, 216, 217, 218, 191, 192, 193, 194, 195, 196, 197, 198, 199, 200, 201, 202, 219, 220, 221, 222, 223, 224, 225, 226, 227, 228, 229, 868, 869, 870, 871, 872, 873, 874, 875, 876, 877, 878, 879, 880, 881, 882] (by decide +kernel) (by decide +kernel)
set_option maxRecDepth 20000 in
theorem gL_law_X7_mend : GoodIn wsL_law (wsV RL 113 RX7 yX7_mend wsX7_mend) := goodIn_app (goodIn_of _ (by decide +kernel)) ggL_law_X7_mend
set_option maxRecDepth 20000 in
theorem ggL_law_X6_search : GoodIn wsL_law wsX6_search := goodIn_r _ [419, 30, 17, 22, 82, 83, 84, 29, 85, 52, 86, 87, 88, 89, 90, 16, 91, 34, 92, 93, 94, 95, 36, 37, 81, 38, 96, 97, 98, 99, 100, 420, 421, 422, 21, 423, 424, 425, 426, 427, 428, 429, 430, 431, 432, 433, 148, 434, 435, 436, 437, 438, 127, 128, 129, 439, 119, 120, 121, 440, 441, 442, 443, 863, 864, 865, 866, 867, 883, 884, 885, 886, 887, 888, 889, 890, 891, 892, 893, 894, 895, 896, 904, 905, 906] (by decide +kernel) (by decide +kernel)
set_option maxRecDepth 20000 in
theorem gL_law_X6_search : GoodIn wsL_law (wsV RL 114 RX6 yX6_search wsX6_search) := goodIn_app (goodIn_of _ (by decide +kernel)) ggL_law_X6_search
set_option maxRecDepth 20000 in
theorem ggL_law_X7_search : GoodIn wsL_law wsX7_search := goodIn_r _ [447, 176, 57, 448, 177, 178, 179, 5, 180, 181, 182, 58, 449, 450, 451, 452, 453, 454, 183, 184, 185, 186, 199, 200, 201, 202, 868, 869, 870, 871, 872, 873, 874, 875, 876, 877, 878, 879, 880, 881, 882] (by decide +kernel) (by decide +kernel)
set_option maxRecDepth 20000 in
theorem gL_law_X7_search : GoodIn wsL_law (wsV RL 117 RX7 yX7_search wsX7_search) := goodIn_app (goodIn_of _ (by decide +kernel)) ggL_law_X7_search
set_option maxRecDepth 20000 in
theorem ggL_law_L_at : GoodIn wsL_law wsL_at := goodIn_ca (goodIn_r _ [457, 255, 458, 459, 460, 2, 461, 17, 260, 261, 262, 263, 264, 265, 266, 127, 128, 16, 129, 81, 863, 864, 865, 866, 867, 883, 884, 885, 886, 887, 888, 889, 890, 891, 892] (by decide +kernel) (by decide +kernel)) (goodIn_sub (fun _ h => List.mem_append_right _ h) (by decide +kernel))
set_option maxRecDepth 20000 in
theorem gL_law_L_at : GoodIn wsL_law (va_wsS RL 118 yL_at wsL_at) := goodIn_app (goodIn_of _ (by decide +kernel)) ggL_law_L_at
set_option maxRecDepth 20000 in
theorem ggL_law_X7_at : GoodIn wsL_law wsX7_at := goodIn_r _ [465, 57, 275, 276, 277, 5, 278, 172, 173, 174, 175, 176, 868, 869, 870, 871, 872, 873, 874, 875, 876, 877, 878, 879, 880, 881, 882] (by decide +kernel) (by decide +kernel)
set_option maxRecDepth 20000 in
theorem gL_law_X7_at : GoodIn wsL_law (wsV RL 120 RX7 yX7_at wsX7_at) := goodIn_app (goodIn_of _ (by decide +kernel)) ggL_law_X7_at
