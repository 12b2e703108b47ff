set_option maxRecDepth 20000 in
theorem gL_inserts_X6_insert : GoodIn wsL_inserts (wsV RL 18 RX6 yX6_insert wsX6_insert) := goodIn_app (goodIn_of _ (by decide +kernel)) ggL_inserts_X6_insert
set_option maxRecDepth 20000 in
theorem ggL_removes_X6_removeAt : GoodIn wsL_removes wsX6_removeAt := goodIn_ca (goodIn_r _ [7, 8, 9, 10, 11, 12, 6, 13, 14, 15, 16, 17, 18, 19, 20, 21, 22, 23, 24, 25, 26, 27, 28, 29, 30, 31, 32, 33, 34, 35, 36, 37, 38, 39, 40, 41, 42, 43, 44, 45, 46, 47, 48, 49, 50, 51, 52, 53, 54, 55, 56, 57, 58, 59, 60, 61, 62, 63, 64, 65, 66, 67, 68, 69, 70, 71, 72, 73, 74, 75, 76, 77, 78, 79, 80, 81, 82, 83, 84, 85, 86, 87, 88, 89, 90, 91, 92, 93, 94, 95, 96, 97, 98, 99, 100, 101, 102, 103, 104, 105, 106, 107, 108, 109, 110, 111, 112, 113, 114, 115, 116, 117, 118, 119, 120, 121] (by decide +kernel) (by decide +kernel)) (goodIn_sub (fun _ h => List.mem_cons_of_mem _ (List.mem_append_right _ h)) (by decide +kernel))
set_option maxRecDepth 20000 in
theorem gL_removes_X6_removeAt : GoodIn wsL_removes (wsV RL 25 RX6 yX6_removeAt wsX6_removeAt) := goodIn_app (goodIn_of _ (by decide +kernel)) ggL_removes_X6_removeAt
set_option maxRecDepth 20000 in
theorem ggL_values_X6_setValue : GoodIn wsL_values wsX6_setValue := goodIn_ca (goodIn_r _ [7, 8, 9, 10, 11, 12, 6, 13, 14, 15, 16, 17, 18, 19, 20, 21, 22, 23, 24, 25, 26, 27, 28, 29, 30, 31, 32, 33, 34, 35, 36, 37, 38, 39, 40, 41, 42, 43, 44, 45, 46, 47, 48, 49, 50, 51, 52, 53, 54, 55, 56, 57, 58, 59, 60, 61, 62, 63, 64, 65, 66, 67, 68, 69, 70, 71, 72, 73, 74, 75, 76, 77, 78, 79, 80, 81, 82, 83, 84, 85, 86, 87, 88, 89, 90, 91, 92, 93, 94, 95, 96, 97, 98, 99, 100, 101, 102, 103, 104, 105, 106, 107, 108, 109, 110, 111, 112, 113, 114, 115, 116, 117, 118, 119, 120, 121] (by decide +kernel) (by decide +kernel)) (goodIn_sub (fun _ h => List.mem_cons_of_mem _ (List.mem_append_right _ h)) (by decide +kernel))
set_option maxRecDepth 20000 in
theorem gL_values_X6_setValue : GoodIn wsL_values (wsV RL 32 RX6 yX6_setValue wsX6_setValue) := goodIn_app (goodIn_of _ (by decide +kernel)) ggL_values_X6_setValue
set_option maxRecDepth 20000 in
theorem ggL_swapsAt_X6_swap : GoodIn wsL_swapsAt wsX6_swap := goodIn_ca (goodIn_r _ [7, 8, 9, 10, 11, 12, 13, 14, 15, 16, 17, 18, 19, 20, 21, 22, 23, 24, 25, 26, 27, 28, 29, 30, 31, 32, 33, 34, 35, 36, 37, 38, 39, 40, 41, 42, 43, 44, 45, 46, 47, 48, 49, 50, 51, 52, 53, 54, 55, 56, 57, 58, 59, 60, 61, 62, 6, 63, 64, 65, 66, 67, 68, 69, 70, 71, 72, 73, 74, 75, 76, 77, 78, 79, 80, 81, 82, 83, 84, 85, 86, 87, 88, 89, 90, 91, 92, 93, 94, 95, 96, 97, 98, 99, 100, 101, 102, 103, 104, 105, 106, 107, 108, 109, 110] (by decide +kernel) (by decide +kernel)) (goodIn_sub (fun _ h => List.mem_cons_of_mem _ (List.mem_append_right _ h)) (by decide +kernel))
set_option maxRecDepth 20000 in
theorem gL_swapsAt_X6_swap : GoodIn wsL_swapsAt (wsV RL 38 RX6 yX6_swap wsX6_swap) := goodIn_app (goodIn_of _ (by decide +kernel)) ggL_swapsAt_X6_swap
set_option maxRecDepth 20000 in
theorem ggL_bounds_X6_setBound : GoodIn wsL_bounds wsX6_setBound := goodIn_ca (goodIn_r _ [7, 8, 9, 10, 11, 12, 6, 13, 14, 15, 16, 17, 18, 19, 20, 21, 22, 23, 24, 25, 26, 27, 28, 29, 30, 31, 32, 33, 34, 35, 36, 37, 38, 39, 40, 41, 42, 43, 44, 45, 46, 47, 48, 49, 50, 51, 52, 53, 54, 55, 56, 57, 58, 59, 60, 61, 62, 63, 64, 65, 66, 67, 68, 69, 70, 71, 72, 73, 74, 75, 76, 77, 78, 79, 80, 81, 82, 83, 84, 85, 86, 87, 88, 89, 90, 91, 92, 93, 94, 95, 96, 97, 98, 99, 100, 101, 102, 103, 104, 105, 106, 107, 108, 109, 110, 111, 112, 113, 114, 115, 116, 117, 118, 119, 120, 121, 122, 123, 124, 125, 126, 127, 128, 129, 130, 131, 132, 133, 134, 135, 136] (by decide +kernel) (by decide +kernel)) (goodIn_sub (fun _ h => List.mem_cons_of_mem _ (List.mem_append_right _ h)) (by decide +kernel))
set_option maxRecDepth 20000 in
theorem gL_bounds_X6_setBound : GoodIn wsL_bounds (wsV RL 41 RX6 yX6_setBound wsX6_setBound) := goodIn_app (goodIn_of _ (by decide +kernel)) ggL_bounds_X6_setBound
set_option maxRecDepth 20000 in
theorem ggL_off_L_ahead : GoodIn wsL_off wsL_ahead := goodIn_r _ [4] (by decide +kernel) (by decide +kernel)
set_option maxRecDepth 20000 in
theorem gL_off_L_ahead : GoodIn wsL_off (va_wsS RL 44 yL_ahead wsL_ahead) := goodIn_app (goodIn_of _ (by decide +kernel)) ggL_off_L_ahead
set_option maxRecDepth 20000 in
theorem ggL_far_L_off : GoodIn wsL_far wsL_off := goodIn_r _ [4, 5, 6, 3, 7] (by decide +kernel) (by decide +kernel)
set_option maxRecDepth 20000 in
theorem gL_far_L_off : GoodIn wsL_far (va_wsS RL 50 yL_off wsL_off) := goodIn_app (goodIn_of _ (by decide +kernel)) ggL_far_L_off
set_option maxRecDepth 20000 in
theorem ggL_fall_L_ahead : GoodIn wsL_fall wsL_ahead := goodIn_r _ [4] (by decide +kernel) (by decide +kernel)
set_option maxRecDepth 20000 in
theorem gL_fall_L_ahead : GoodIn wsL_fall (va_wsS RL 44 yL_ahead wsL_ahead) := goodIn_app (goodIn_of _ (by decide +kernel)) ggL_fall_L_ahead
set_option maxRecDepth 20000 in
theorem ggL_inversions_L_ahead : GoodIn wsL_inversions wsL_ahead := goodIn_r _ [4] (by decide +kernel) (by decide +kernel)
set_option maxRecDepth 20000 in
theorem gL_inversions_L_ahead : GoodIn wsL_inversions (va_wsS RL 44 yL_ahead wsL_ahead) := goodIn_app (goodIn_of _ (by decide +kernel)) ggL_inversions_L_ahead
set_option maxRecDepth 20000 in
theorem ggL_broken_L_far : GoodIn wsL_broken wsL_far := goodIn_r _ [4, 5, 6, 3, 7, 8, 9, 10] (by decide +kernel) (by decide +kernel)
set_option maxRecDepth 20000 in
theorem gL_broken_L_far : GoodIn wsL_broken (va_wsS RL 54 yL_far wsL_far) := goodIn_app (goodIn_of _ (by decide +kernel)) ggL_broken_L_far
set_option maxRecDepth 20000 in
theorem ggL_step_L_far : GoodIn wsL_step wsL_far := goodIn_r _ [4, 5, 6, 3, 7, 8, 9, 10] (by decide +kernel) (by decide +kernel)
