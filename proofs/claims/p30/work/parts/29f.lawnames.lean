set_option maxRecDepth 20000 in
theorem gL_step_L_far : GoodIn wsL_step (va_wsS RL 54 yL_far wsL_far) := goodIn_app (goodIn_of _ (by decide +kernel)) ggL_step_L_far
set_option maxRecDepth 20000 in
theorem ggL_step_L_off : GoodIn wsL_step wsL_off := goodIn_r _ [7, 8, 9, 3, 10] (by decide +kernel) (by decide +kernel)
set_option maxRecDepth 20000 in
theorem gL_step_L_off : GoodIn wsL_step (va_wsS RL 50 yL_off wsL_off) := goodIn_app (goodIn_of _ (by decide +kernel)) ggL_step_L_off
set_option maxRecDepth 20000 in
theorem ggL_step_L_fall : GoodIn wsL_step wsL_fall := goodIn_r _ [13, 8, 9, 3, 10] (by decide +kernel) (by decide +kernel)
set_option maxRecDepth 20000 in
theorem gL_step_L_fall : GoodIn wsL_step (va_wsS RL 57 yL_fall wsL_fall) := goodIn_app (goodIn_of _ (by decide +kernel)) ggL_step_L_fall
set_option maxRecDepth 20000 in
theorem ggL_step_L_swap : GoodIn wsL_step wsL_swap := goodIn_r _ [16] (by decide +kernel) (by decide +kernel)
set_option maxRecDepth 20000 in
theorem gL_step_L_swap : GoodIn wsL_step (va_wsS RL 61 yL_swap wsL_swap) := goodIn_app (goodIn_of _ (by decide +kernel)) ggL_step_L_swap
set_option maxRecDepth 20000 in
theorem ggL_mend_L_step : GoodIn wsL_mend wsL_step := goodIn_r _ [4, 5, 6, 3, 7, 8, 9, 10, 11, 12, 13, 14, 15, 16, 17, 18, 19] (by decide +kernel) (by decide +kernel)
set_option maxRecDepth 20000 in
theorem gL_mend_L_step : GoodIn wsL_mend (va_wsS RL 64 yL_step wsL_step) := goodIn_app (goodIn_of _ (by decide +kernel)) ggL_mend_L_step
set_option maxRecDepth 20000 in
theorem ggL_ends_L_mend : GoodIn wsL_ends wsL_mend := goodIn_r _ [4, 5, 6, 3, 7, 8, 9, 10, 11, 12, 13, 14, 15, 16, 17, 18, 19, 20, 21, 22] (by decide +kernel) (by decide +kernel)
set_option maxRecDepth 20000 in
theorem gL_ends_L_mend : GoodIn wsL_ends (va_wsS RL 68 yL_mend wsL_mend) := goodIn_app (goodIn_of _ (by decide +kernel)) ggL_ends_L_mend
set_option maxRecDepth 20000 in
theorem ggL_search_L_ahead : GoodIn wsL_search wsL_ahead := goodIn_r _ [4] (by decide +kernel) (by decide +kernel)
set_option maxRecDepth 20000 in
theorem gL_search_L_ahead : GoodIn wsL_search (va_wsS RL 44 yL_ahead wsL_ahead) := goodIn_app (goodIn_of _ (by decide +kernel)) ggL_search_L_ahead
set_option maxRecDepth 20000 in
theorem ggL_acts_L_low : GoodIn wsL_acts wsL_low := goodIn_r _ [10, 11] (by decide +kernel) (by decide +kernel)
set_option maxRecDepth 20000 in
theorem gL_acts_L_low : GoodIn wsL_acts (va_wsS RL 74 yL_low wsL_low) := goodIn_app (goodIn_of _ (by decide +kernel)) ggL_acts_L_low
set_option maxRecDepth 20000 in
theorem ggL_acts_L_value : GoodIn wsL_acts wsL_value := goodIn_r _ [14, 15] (by decide +kernel) (by decide +kernel)
set_option maxRecDepth 20000 in
theorem gL_acts_L_value : GoodIn wsL_acts (va_wsS RL 78 yL_value wsL_value) := goodIn_app (goodIn_of _ (by decide +kernel)) ggL_acts_L_value
set_option maxRecDepth 20000 in
theorem ggL_acts_L_appends : GoodIn wsL_acts wsL_appends := goodIn_ca (goodIn_r _ [18, 19, 2, 20, 21, 22, 23, 24, 25, 26, 27, 28, 29, 30, 31, 32, 33, 34, 35, 36, 37, 38, 39, 40, 41, 42, 43, 44, 45, 46, 47, 48, 49, 50, 51, 52, 53, 54, 55, 56, 57, 58, 59, 60, 61, 62, 63, 64, 65, 66, 67, 68, 69, 70, 71, 72, 73, 74, 75, 76, 77, 78, 79, 80, 81, 82, 83, 84, 85, 86, 87, 88, 89, 90, 91, 92, 93, 94, 95, 96, 97, 98, 99, 100, 101, 102, 103, 104, 105, 106, 107, 108, 109, 110, 111, 112, 113, 114, 115, 116, 117, 118, 119, 120, 121, 122, 123, 124, 125, 126, 127, 128, 129, 318, 319, 320, 321, 322, 323, 324, 325, 326, 327, 328, 329, 330, 331, 332, 333, 334, 335] (by decide +kernel) (by decide +kernel)) (goodIn_sub (fun _ h => List.mem_cons_of_mem _ (List.mem_append_left _ (List.mem_append_left _ (List.mem_append_right _ h)))) (by decide +kernel))
set_option maxRecDepth 20000 in
theorem gL_acts_L_appends : GoodIn wsL_acts (va_wsS RL 82 yL_appends wsL_appends) := goodIn_app (goodIn_of _ (by decide +kernel)) ggL_acts_L_appends
set_option maxRecDepth 20000 in
theorem ggL_acts_L_put : GoodIn wsL_acts wsL_put := goodIn_r _ [132] (by decide +kernel) (by decide +kernel)
