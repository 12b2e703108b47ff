set_option maxRecDepth 20000 in
theorem ggL_law_L_element : GoodIn wsL_law wsL_element := goodIn_ca (goodIn_ca (goodIn_r _ [468, 255, 237, 469, 470, 471, 2, 472, 242, 243, 260, 261, 262, 263, 264, 265, 17, 266, 127, 128, 16, 129, 81, 473, 474, 475, 476, 122, 123, 124, 125, 37, 126, 477, 344, 345, 346, 146, 147, 148, 149, 38, 150, 478, 156, 157, 158, 34, 159, 160, 161, 162, 118, 119, 120, 121, 96, 479, 376, 377, 378, 863, 864, 865, 866, 867, 883, 884, 885, 886, 887, 888, 889, 890, 891, 892] (by decide +kernel) (by decide +kernel)) (goodIn_sub (fun _ h => List.mem_append_left _ (List.mem_append_right _ h)) (by decide +kernel))) (goodIn_sub (fun _ h => List.mem_append_right _ h) (by decide +kernel))
set_option maxRecDepth 20000 in
theorem gL_law_L_element : GoodIn wsL_law (va_wsS RL 121 yL_element wsL_element) := goodIn_app (goodIn_of _ (by decide +kernel)) ggL_law_L_element
set_option maxRecDepth 20000 in
theorem ggL_law_X7_element : GoodIn wsL_law wsX7_element := goodIn_r _ [483, 484, 275, 276, 277, 5, 278, 57, 249, 250, 251, 172, 173, 174, 175, 176, 485, 486, 487, 488, 183, 184, 185, 186, 195, 196, 197, 198, 199, 200, 201, 202, 191, 192, 193, 194, 215, 216, 217, 218, 219, 220, 221, 222, 223, 224, 225, 387, 388, 389, 390, 868, 869, 870, 871, 872, 873, 874, 875, 876, 877, 878, 879, 880, 881, 882] (by decide +kernel) (by decide +kernel)
set_option maxRecDepth 20000 in
theorem gL_law_X7_element : GoodIn wsL_law (wsV RL 124 RX7 yX7_element wsX7_element) := goodIn_app (goodIn_of _ (by decide +kernel)) ggL_law_X7_element
set_option maxRecDepth 20000 in
theorem ggL_law_L_ranked : GoodIn wsL_law wsL_ranked := goodIn_ca (goodIn_r _ [491, 255, 492, 493, 494, 2, 495, 264, 265, 17, 496, 497, 498, 16, 499, 81, 37, 266, 127, 128, 129, 863, 864, 865, 866, 867, 883, 884, 885, 886, 887, 888, 889, 890, 891, 892] (by decide +kernel) (by decide +kernel)) (goodIn_sub (fun _ h => List.mem_append_right _ h) (by decide +kernel))
set_option maxRecDepth 20000 in
theorem gL_law_L_ranked : GoodIn wsL_law (va_wsS RL 125 yL_ranked wsL_ranked) := goodIn_app (goodIn_of _ (by decide +kernel)) ggL_law_L_ranked
set_option maxRecDepth 20000 in
theorem ggL_law_X7_ranked : GoodIn wsL_law wsX7_ranked := goodIn_r _ [503, 57, 275, 276, 277, 5, 278, 172, 173, 174, 175, 176, 183, 184, 185, 186, 195, 196, 197, 198, 199, 200, 201, 202, 868, 869, 870, 871, 872, 873, 874, 875, 876, 877, 878, 879, 880, 881, 882] (by decide +kernel) (by decide +kernel)
set_option maxRecDepth 20000 in
theorem gL_law_X7_ranked : GoodIn wsL_law (wsV RL 127 RX7 yX7_ranked wsX7_ranked) := goodIn_app (goodIn_of _ (by decide +kernel)) ggL_law_X7_ranked
set_option maxRecDepth 20000 in
theorem ggL_law_X6_broken : GoodIn wsL_law wsX6_broken := goodIn_r _ [507, 17, 508, 340, 341, 16, 342, 81, 343, 344, 345, 346, 146, 147, 148, 149, 38, 150, 123, 124, 125, 37, 126, 127, 128, 129, 863, 864, 865, 866, 867, 883, 884, 885, 886, 887, 888, 889, 890, 891, 892] (by decide +kernel) (by decide +kernel)
set_option maxRecDepth 20000 in
theorem gL_law_X6_broken : GoodIn wsL_law (wsV RL 128 RX6 yX6_broken wsX6_broken) := goodIn_app (goodIn_of _ (by decide +kernel)) ggL_law_X6_broken
set_option maxRecDepth 20000 in
theorem ggL_law_X7_broken : GoodIn wsL_law wsX7_broken := goodIn_r _ [512, 176, 513, 514, 515, 5, 516, 183, 184, 185, 186, 57, 215, 216, 217, 218, 191, 192, 193, 194, 195, 196, 197, 198, 199, 200, 201, 202, 219, 220, 221, 868, 869, 870, 871, 872, 873, 874, 875, 876, 877, 878, 879, 880, 881, 882] (by decide +kernel) (by decide +kernel)
set_option maxRecDepth 20000 in
theorem gL_law_X7_broken : GoodIn wsL_law (wsV RL 132 RX7 yX7_broken wsX7_broken) := goodIn_app (goodIn_of _ (by decide +kernel)) ggL_law_X7_broken
set_option maxRecDepth 20000 in
theorem ggL_law_L_whole : GoodIn wsL_law wsL_whole := goodIn_ca (goodIn_r _ [519, 237, 520, 521, 522, 2, 523, 242, 243, 524, 525, 526, 527, 17, 26, 335, 336, 337, 16, 338, 339, 340, 341, 342, 81, 343, 344, 345, 346, 146, 147, 148, 149, 38, 150, 123, 124, 125, 37, 126, 127, 128, 129, 347, 348, 349, 350, 351, 352, 353, 371, 372, 373, 374, 375, 376, 377, 378, 34, 118, 119, 120, 121, 96, 528, 529, 530, 531, 155, 156, 157, 158, 159, 160, 161, 162, 532, 533, 534, 535, 536, 433, 434, 863, 864, 865, 866, 867, 883, 884, 885, 886, 887, 888, 889, 890, 891, 892, 897, 898, 899, 900, 901, 902, 903] (by decide +kernel) (by decide +kernel)) (goodIn_sub (fun _ h => List.mem_append_left _ (List.mem_append_right _ h)) (by decide +kernel))
set_option maxRecDepth 20000 in
theorem gL_law_L_whole : GoodIn wsL_law (va_wsS RL 133 yL_whole wsL_whole) := goodIn_app (goodIn_of _ (by decide +kernel)) ggL_law_L_whole
set_option maxRecDepth 20000 in
theorem ggL_law_X7_whole : GoodIn wsL_law wsX7_whole := goodIn_r _ [540, 541, 249, 250, 5, 251, 172, 173, 174, 175, 176, 542, 543, 544, 545, 546, 183, 184, 185, 186, 57, 359, 360, 361, 362, 215, 216, 217, 218, 191, 192, 193, 194, 195, 196, 197, 198, 199, 200, 201, 202, 219, 220, 221, 383, 384, 385, 386, 387, 388, 389, 390, 547, 548, 549, 550, 222, 223, 224, 225, 551, 552, 553, 554, 868, 869, 870, 871, 872, 873, 874, 875, 876, 877, 878, 879, 880, 881, 882] (by decide +kernel) (by decide +kernel)
set_option maxRecDepth 20000 in
theorem gL_law_X7_whole : GoodIn wsL_law (wsV RL 135 RX7 yX7_whole wsX7_whole) := goodIn_app (goodIn_of _ (by decide +kernel)) ggL_law_X7_whole
set_option maxRecDepth 20000 in
theorem ggL_law_L_found : GoodIn wsL_law wsL_found := goodIn_ca (goodIn_r _ [557, 237, 558, 559, 560, 2, 561, 242, 243, 22, 17, 420, 421, 422, 21, 423, 424, 425, 426, 427, 428, 429, 430, 431, 432, 433, 148, 434, 435, 436, 437, 438, 127, 128, 16, 129, 81, 439, 119, 120, 121, 96, 440, 441, 442, 443, 863, 864, 865, 866, 867, 893, 894, 895, 896, 883, 884, 885, 886, 887, 888, 889, 890, 891, 892] (by decide +kernel) (by decide +kernel)) (goodIn_sub (fun _ h => List.mem_append_left _ (List.mem_append_right _ h)) (by decide +kernel))
set_option maxRecDepth 20000 in
theorem gL_law_L_found : GoodIn wsL_law (va_wsS RL 136 yL_found wsL_found) := goodIn_app (goodIn_of _ (by decide +kernel)) ggL_law_L_found
set_option maxRecDepth 20000 in
theorem ggL_law_X7_found : GoodIn wsL_law wsX7_found := goodIn_r _ [565, 566, 448, 453, 454, 249, 250, 5, 251, 172, 173, 174, 175, 176, 449, 450, 451, 452, 57, 183, 184, 185, 186, 199, 200, 201, 202, 868, 869, 870, 871, 872, 873, 874, 875, 876, 877, 878, 879, 880, 881, 882] (by decide +kernel) (by decide +kernel)
set_option maxRecDepth 20000 in
theorem gL_law_X7_found : GoodIn wsL_law (wsV RL 139 RX7 yX7_found wsX7_found) := goodIn_app (goodIn_of _ (by decide +kernel)) ggL_law_X7_found
