set_option maxRecDepth 20000 in
theorem gL_elementOf_X6_element : GoodIn wsL_elementOf (wsV RL 140 RX6 yX6_element wsX6_element) := goodIn_app (goodIn_of _ (by decide +kernel)) ggL_elementOf_X6_element
set_option maxRecDepth 20000 in
theorem ggL_rankedOf_X6_ranked : GoodIn wsL_rankedOf wsX6_ranked := goodIn_ca (goodIn_r _ [7, 8, 9, 10, 11, 12, 13, 14, 15, 16, 17, 18, 19, 20, 21, 22, 23, 24, 25, 26, 27, 28, 29, 30, 31, 32, 33, 34, 35, 36] (by decide +kernel) (by decide +kernel)) (goodIn_sub (fun _ h => List.mem_cons_of_mem _ (List.mem_append_right _ h)) (by decide +kernel))
set_option maxRecDepth 20000 in
theorem gL_rankedOf_X6_ranked : GoodIn wsL_rankedOf (wsV RL 143 RX6 yX6_ranked wsX6_ranked) := goodIn_app (goodIn_of _ (by decide +kernel)) ggL_rankedOf_X6_ranked
set_option maxRecDepth 20000 in
theorem ggL_wholeOf_X6_whole : GoodIn wsL_wholeOf wsX6_whole := goodIn_ca (goodIn_r _ [7, 8, 9, 10, 11, 12, 6, 13, 14, 15, 16, 17, 18, 19, 20, 21, 22, 23, 24, 25, 26, 27, 28, 29, 30, 31, 32, 33, 34, 35, 36, 37, 38, 39, 40, 41, 42, 43, 44, 45, 46, 47, 48, 49, 50, 51, 52, 53, 54, 55, 56, 57, 58, 59, 60, 61, 62, 63, 64, 65, 66, 67, 68, 69, 70, 71, 72, 73, 74, 75, 76, 77, 78, 79, 80, 81, 82, 83, 84, 85, 86, 87, 88, 89, 90, 91, 92, 93, 94, 95, 96, 97, 98, 99, 100, 101, 102, 103, 104, 105] (by decide +kernel) (by decide +kernel)) (goodIn_sub (fun _ h => List.mem_cons_of_mem _ (List.mem_append_right _ h)) (by decide +kernel))
set_option maxRecDepth 20000 in
theorem gL_wholeOf_X6_whole : GoodIn wsL_wholeOf (wsV RL 146 RX6 yX6_whole wsX6_whole) := goodIn_app (goodIn_of _ (by decide +kernel)) ggL_wholeOf_X6_whole
set_option maxRecDepth 20000 in
theorem ggL_isSo_L_off : GoodIn wsL_isSo wsL_off := goodIn_r _ [4, 5, 6, 3, 7] (by decide +kernel) (by decide +kernel)
set_option maxRecDepth 20000 in
theorem gL_isSo_L_off : GoodIn wsL_isSo (va_wsS RL 50 yL_off wsL_off) := goodIn_app (goodIn_of _ (by decide +kernel)) ggL_isSo_L_off
set_option maxRecDepth 20000 in
theorem ggL_isSo_L_far : GoodIn wsL_isSo wsL_far := goodIn_r _ [10, 1, 2, 3, 4, 5, 6, 7] (by decide +kernel) (by decide +kernel)
set_option maxRecDepth 20000 in
theorem gL_isSo_L_far : GoodIn wsL_isSo (va_wsS RL 54 yL_far wsL_far) := goodIn_app (goodIn_of _ (by decide +kernel)) ggL_isSo_L_far
set_option maxRecDepth 20000 in
theorem ggL_isSo_L_ahead : GoodIn wsL_isSo wsL_ahead := goodIn_r _ [7] (by decide +kernel) (by decide +kernel)
set_option maxRecDepth 20000 in
theorem gL_isSo_L_ahead : GoodIn wsL_isSo (va_wsS RL 44 yL_ahead wsL_ahead) := goodIn_app (goodIn_of _ (by decide +kernel)) ggL_isSo_L_ahead
set_option maxRecDepth 20000 in
theorem ggL_isSo_L_fall : GoodIn wsL_isSo wsL_fall := goodIn_r _ [13, 5, 6, 3, 7] (by decide +kernel) (by decide +kernel)
set_option maxRecDepth 20000 in
theorem gL_isSo_L_fall : GoodIn wsL_isSo (va_wsS RL 57 yL_fall wsL_fall) := goodIn_app (goodIn_of _ (by decide +kernel)) ggL_isSo_L_fall
set_option maxRecDepth 20000 in
theorem ggL_isSo_L_atOf : GoodIn wsL_isSo wsL_atOf := goodIn_ca (goodIn_r _ [16, 17, 18, 19, 20, 21, 22, 23, 24, 25, 26, 27, 28, 29, 30, 31, 32, 33, 34, 35, 36, 182, 183, 184, 185, 186, 187, 188, 189, 190, 191, 192, 193, 194, 195, 196] (by decide +kernel) (by decide +kernel)) (goodIn_sub (fun _ h => List.mem_cons_of_mem _ (List.mem_append_left _ (List.mem_append_right _ h))) (by decide +kernel))
set_option maxRecDepth 20000 in
theorem gL_isSo_L_atOf : GoodIn wsL_isSo (va_wsS RL 149 yL_atOf wsL_atOf) := goodIn_app (goodIn_of _ (by decide +kernel)) ggL_isSo_L_atOf
set_option maxRecDepth 20000 in
theorem ggL_isSo_L_elementOf : GoodIn wsL_isSo wsL_elementOf := goodIn_ca (goodIn_ca (goodIn_r _ [39, 17, 40, 41, 42, 43, 44, 45, 22, 46, 47, 48, 25, 26, 27, 28, 29, 30, 24, 31, 32, 33, 34, 35, 36, 49, 50, 51, 52, 53, 54, 55, 56, 57, 58, 59, 60, 61, 62, 63, 64, 65, 66, 67, 68, 69, 70, 71, 72, 73, 74, 75, 76, 77, 78, 79, 80, 81, 82, 83, 84, 85, 86, 182, 183, 184, 185, 186, 187, 188, 189, 190, 191, 192, 193, 194, 195, 196] (by decide +kernel) (by decide +kernel)) (goodIn_sub (fun _ h => List.mem_cons_of_mem _ (List.mem_append_right _ h)) (by decide +kernel))) (goodIn_sub (fun _ h => List.mem_cons_of_mem _ (List.mem_append_left _ (List.mem_append_right _ h))) (by decide +kernel))
set_option maxRecDepth 20000 in
theorem gL_isSo_L_elementOf : GoodIn wsL_isSo (va_wsS RL 153 yL_elementOf wsL_elementOf) := goodIn_app (goodIn_of _ (by decide +kernel)) ggL_isSo_L_elementOf
set_option maxRecDepth 20000 in
theorem ggL_isSo_L_rankedOf : GoodIn wsL_isSo wsL_rankedOf := goodIn_ca (goodIn_r _ [89, 17, 18, 90, 91, 92, 22, 93, 29, 30, 24, 94, 95, 96, 34, 97, 36, 57, 31, 32, 33, 35, 182, 183, 184, 185, 186, 187, 188, 189, 190, 191, 192, 193, 194, 195, 196] (by decide +kernel) (by decide +kernel)) (goodIn_sub (fun _ h => List.mem_cons_of_mem _ (List.mem_append_left _ (List.mem_append_right _ h))) (by decide +kernel))
set_option maxRecDepth 20000 in
theorem gL_isSo_L_rankedOf : GoodIn wsL_isSo (va_wsS RL 157 yL_rankedOf wsL_rankedOf) := goodIn_app (goodIn_of _ (by decide +kernel)) ggL_isSo_L_rankedOf
set_option maxRecDepth 20000 in
theorem ggL_isSo_L_broken : GoodIn wsL_isSo wsL_broken := goodIn_r _ [100, 8, 9, 3, 10, 1, 2, 4, 5, 6, 7] (by decide +kernel) (by decide +kernel)
