set_option maxRecDepth 20000 in
theorem gL_acts_L_bounds : GoodIn wsL_acts (va_wsS RL 116 yL_bounds wsL_bounds) := goodIn_app (goodIn_of _ (by decide +kernel)) ggL_acts_L_bounds
set_option maxRecDepth 20000 in
theorem ggL_acts_X6_setOrder : GoodIn wsL_acts wsX6_setOrder := goodIn_r _ [259, 25, 26, 39, 40, 41, 42, 43, 44, 45, 46, 47, 48, 49, 36, 50, 51, 52, 53, 54, 55, 56, 57, 38, 58, 59, 60, 61, 62, 63, 260, 261, 262, 263, 73, 74, 75, 76, 77, 78, 79, 80, 81, 82, 83, 84, 264, 265, 266, 267, 268, 269, 270, 271, 93, 94, 95, 23, 96, 97, 98, 99, 100, 101, 102, 103, 104, 105, 106, 107, 108, 109, 110, 111, 112, 113, 86, 87, 88, 89, 90, 91, 92, 114, 115, 116, 117, 118, 119, 120, 121, 122, 123, 124, 125, 126, 127, 128, 129, 318, 319, 320, 321, 322, 333, 334, 335, 323, 324, 325, 326, 327, 328, 329, 330, 331, 332] (by decide +kernel) (by decide +kernel)
set_option maxRecDepth 20000 in
theorem gL_acts_X6_setOrder : GoodIn wsL_acts (wsV RL 119 RX6 yX6_setOrder wsX6_setOrder) := goodIn_app (goodIn_of _ (by decide +kernel)) ggL_acts_X6_setOrder
set_option maxRecDepth 20000 in
theorem ggL_acts_X6_setSelf : GoodIn wsL_acts wsX6_setSelf := goodIn_r _ [275, 25, 26, 39, 40, 41, 42, 43, 44, 45, 46, 47, 48, 49, 36, 50, 51, 52, 53, 54, 55, 56, 57, 38, 58, 59, 60, 61, 62, 63, 93, 94, 95, 23, 96, 97, 98, 99, 100, 101, 102, 103, 104, 105, 106, 107, 108, 109, 110, 111, 112, 113, 86, 87, 88, 89, 90, 91, 92, 114, 115, 116, 117, 118, 119, 120, 121, 122, 123, 124, 125, 81, 82, 83, 84, 126, 127, 128, 129, 318, 319, 320, 321, 322, 323, 324, 325, 326, 327, 328, 329, 330, 331, 332, 333, 334, 335] (by decide +kernel) (by decide +kernel)
set_option maxRecDepth 20000 in
theorem gL_acts_X6_setSelf : GoodIn wsL_acts (wsV RL 123 RX6 yX6_setSelf wsX6_setSelf) := goodIn_app (goodIn_of _ (by decide +kernel)) ggL_acts_X6_setSelf
set_option maxRecDepth 20000 in
theorem ggL_acts_X6_step : GoodIn wsL_acts wsX6_step := goodIn_r _ [279, 25, 26, 39, 40, 41, 42, 43, 44, 45, 46, 47, 48, 49, 36, 50, 51, 52, 53, 54, 55, 56, 57, 38, 58, 59, 60, 61, 62, 63, 280, 102, 103, 104, 105, 106, 107, 108, 109, 110, 111, 112, 113, 86, 87, 88, 89, 90, 91, 92, 114, 115, 116, 117, 118, 119, 120, 121, 122, 123, 124, 125, 81, 82, 83, 84, 126, 127, 128, 129, 318, 319, 320, 321, 322, 333, 334, 335, 323, 324, 325, 326, 327, 328, 329, 330, 331, 332] (by decide +kernel) (by decide +kernel)
set_option maxRecDepth 20000 in
theorem gL_acts_X6_step : GoodIn wsL_acts (wsV RL 126 RX6 yX6_step wsX6_step) := goodIn_app (goodIn_of _ (by decide +kernel)) ggL_acts_X6_step
set_option maxRecDepth 20000 in
theorem ggL_acts_L_step : GoodIn wsL_acts wsL_step := goodIn_r _ [147, 148, 149, 9, 150, 133, 134, 135, 136, 137, 138, 151, 152, 153, 154, 155, 156] (by decide +kernel) (by decide +kernel)
set_option maxRecDepth 20000 in
theorem gL_acts_L_step : GoodIn wsL_acts (va_wsS RL 64 yL_step wsL_step) := goodIn_app (goodIn_of _ (by decide +kernel)) ggL_acts_L_step
set_option maxRecDepth 20000 in
theorem ggL_acts_X6_mend : GoodIn wsL_acts wsX6_mend := goodIn_r _ [284, 25, 26, 39, 40, 41, 42, 43, 44, 45, 46, 47, 48, 49, 36, 50, 51, 52, 53, 54, 55, 56, 57, 38, 58, 59, 60, 61, 62, 63, 97, 98, 99, 100, 101, 102, 103, 104, 105, 106, 107, 108, 109, 110, 111, 112, 113, 86, 87, 88, 89, 90, 91, 92, 114, 115, 116, 117, 118, 119, 120, 121, 122, 123, 124, 125, 81, 82, 83, 84, 126, 127, 128, 129, 318, 319, 320, 321, 322, 333, 334, 335, 323, 324, 325, 326, 327, 328, 329, 330, 331, 332] (by decide +kernel) (by decide +kernel)
set_option maxRecDepth 20000 in
theorem gL_acts_X6_mend : GoodIn wsL_acts (wsV RL 129 RX6 yX6_mend wsX6_mend) := goodIn_app (goodIn_of _ (by decide +kernel)) ggL_acts_X6_mend
set_option maxRecDepth 20000 in
theorem ggL_acts_L_mend : GoodIn wsL_acts wsL_mend := goodIn_r _ [144, 145, 146, 9, 147, 148, 149, 150, 133, 134, 135, 136, 137, 138, 151, 152, 153, 154, 155, 156] (by decide +kernel) (by decide +kernel)
set_option maxRecDepth 20000 in
theorem gL_acts_L_mend : GoodIn wsL_acts (va_wsS RL 68 yL_mend wsL_mend) := goodIn_app (goodIn_of _ (by decide +kernel)) ggL_acts_L_mend
set_option maxRecDepth 20000 in
theorem ggL_acts_L_search : GoodIn wsL_acts wsL_search := goodIn_r _ [287, 136, 137, 9, 138] (by decide +kernel) (by decide +kernel)
set_option maxRecDepth 20000 in
theorem gL_acts_L_search : GoodIn wsL_acts (va_wsS RL 131 yL_search wsL_search) := goodIn_app (goodIn_of _ (by decide +kernel)) ggL_acts_L_search
set_option maxRecDepth 20000 in
theorem ggL_acts_X6_search : GoodIn wsL_acts wsX6_search := goodIn_r _ [291, 25, 26, 292, 39, 40, 41, 42, 43, 44, 45, 46, 47, 48, 49, 36, 50, 51, 52, 53, 54, 55, 56, 57, 38, 58, 59, 60, 61, 62, 63, 293, 294, 295, 296, 297, 298, 299, 300, 301, 302, 303, 304, 305, 306, 307, 111, 308, 309, 310, 311, 312, 90, 91, 92, 313, 82, 83, 84, 314, 315, 316, 317, 318, 319, 320, 321, 322, 323, 324, 325, 326, 327, 328, 329, 330, 331, 332, 336, 337, 338, 339, 333, 334, 335] (by decide +kernel) (by decide +kernel)
set_option maxRecDepth 20000 in
theorem gL_acts_X6_search : GoodIn wsL_acts (wsV RL 135 RX6 yX6_search wsX6_search) := goodIn_app (goodIn_of _ (by decide +kernel)) ggL_acts_X6_search
set_option maxRecDepth 20000 in
theorem ggL_atOf_X6_at : GoodIn wsL_atOf wsX6_at := goodIn_ca (goodIn_r _ [7, 8, 9, 10, 11, 6, 12, 13, 14, 15, 16, 17, 18, 19, 20, 21, 22, 23, 24, 25, 26, 27, 28, 29, 30, 31, 32, 33, 34, 35] (by decide +kernel) (by decide +kernel)) (goodIn_sub (fun _ h => List.mem_cons_of_mem _ (List.mem_append_right _ h)) (by decide +kernel))
set_option maxRecDepth 20000 in
theorem gL_atOf_X6_at : GoodIn wsL_atOf (wsV RL 137 RX6 yX6_at wsX6_at) := goodIn_app (goodIn_of _ (by decide +kernel)) ggL_atOf_X6_at
set_option maxRecDepth 20000 in
theorem ggL_elementOf_X6_element : GoodIn wsL_elementOf wsX6_element := goodIn_ca (goodIn_ca (goodIn_r _ [9, 10, 11, 12, 13, 14, 8, 15, 16, 17, 18, 19, 20, 21, 22, 23, 24, 25, 26, 27, 28, 29, 30, 31, 32, 33, 34, 35, 36, 37, 38, 39, 40, 41, 42, 43, 44, 45, 46, 47, 48, 49, 50, 51, 52, 53, 54, 55, 56, 57, 58, 59, 60, 61, 62, 63, 64, 65, 66, 67, 68, 69, 70, 71, 72, 73, 74, 75, 76, 77] (by decide +kernel) (by decide +kernel)) (goodIn_sub (fun _ h => List.mem_cons_of_mem _ (List.mem_append_left _ (List.mem_append_right _ h))) (by decide +kernel))) (goodIn_sub (fun _ h => List.mem_cons_of_mem _ (List.mem_append_right _ h)) (by decide +kernel))
