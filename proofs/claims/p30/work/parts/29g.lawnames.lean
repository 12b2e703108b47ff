set_option maxRecDepth 20000 in
theorem gL_acts_L_put : GoodIn wsL_acts (va_wsS RL 86 yL_put wsL_put) := goodIn_app (goodIn_of _ (by decide +kernel)) ggL_acts_L_put
set_option maxRecDepth 20000 in
theorem ggL_acts_L_off : GoodIn wsL_acts wsL_off := goodIn_r _ [135, 136, 137, 9, 138] (by decide +kernel) (by decide +kernel)
set_option maxRecDepth 20000 in
theorem gL_acts_L_off : GoodIn wsL_acts (va_wsS RL 50 yL_off wsL_off) := goodIn_app (goodIn_of _ (by decide +kernel)) ggL_acts_L_off
set_option maxRecDepth 20000 in
theorem ggL_acts_L_ends : GoodIn wsL_acts wsL_ends := goodIn_r _ [141, 142, 143, 9, 144, 145, 146, 147, 148, 149, 150, 133, 134, 135, 136, 137, 138, 151, 152, 153, 154, 155, 156] (by decide +kernel) (by decide +kernel)
set_option maxRecDepth 20000 in
theorem gL_acts_L_ends : GoodIn wsL_acts (va_wsS RL 90 yL_ends wsL_ends) := goodIn_app (goodIn_of _ (by decide +kernel)) ggL_acts_L_ends
set_option maxRecDepth 20000 in
theorem ggL_acts_L_inserts : GoodIn wsL_acts wsL_inserts := goodIn_ca (goodIn_ca (goodIn_r _ [159, 160, 19, 3, 2, 161, 162, 163, 23, 164, 165, 166, 26, 25, 167, 70, 71, 36, 72, 38, 27, 28, 29, 30, 31, 32, 33, 34, 35, 37, 39, 40, 41, 42, 43, 44, 45, 46, 47, 48, 49, 50, 51, 52, 53, 54, 55, 56, 57, 58, 59, 60, 61, 62, 63, 64, 65, 66, 67, 68, 69, 73, 74, 75, 76, 77, 78, 79, 80, 81, 82, 83, 84, 93, 94, 95, 96, 97, 98, 99, 100, 101, 102, 103, 104, 105, 106, 107, 108, 109, 110, 111, 112, 113, 86, 87, 88, 89, 90, 91, 92, 114, 115, 116, 117, 118, 119, 120, 121, 122, 123, 124, 125, 126, 127, 128, 129, 318, 319, 320, 321, 322, 323, 324, 325, 326, 327, 328, 329, 330, 331, 332, 333, 334, 335] (by decide +kernel) (by decide +kernel)) (goodIn_sub (fun _ h => List.mem_cons_of_mem _ (List.mem_append_left _ (List.mem_append_right _ h))) (by decide +kernel))) (goodIn_sub (fun _ h => List.mem_cons_of_mem _ (List.mem_append_left _ (List.mem_append_left _ (List.mem_append_right _ h)))) (by decide +kernel))
set_option maxRecDepth 20000 in
theorem gL_acts_L_inserts : GoodIn wsL_acts (va_wsS RL 94 yL_inserts wsL_inserts) := goodIn_app (goodIn_of _ (by decide +kernel)) ggL_acts_L_inserts
set_option maxRecDepth 20000 in
theorem ggL_acts_L_removes : GoodIn wsL_acts wsL_removes := goodIn_ca (goodIn_r _ [170, 171, 4, 172, 173, 174, 23, 175, 25, 26, 176, 177, 178, 179, 180, 181, 182, 90, 91, 36, 92, 38, 39, 40, 41, 42, 43, 44, 45, 46, 47, 48, 49, 50, 51, 52, 53, 54, 55, 56, 57, 58, 59, 60, 61, 62, 63, 183, 184, 185, 186, 89, 73, 74, 75, 76, 77, 78, 79, 80, 81, 82, 83, 84, 93, 94, 95, 96, 97, 98, 99, 100, 101, 102, 103, 104, 105, 106, 107, 108, 109, 110, 111, 112, 113, 86, 87, 88, 114, 115, 116, 117, 118, 119, 120, 121, 122, 123, 124, 125, 126, 127, 128, 129, 318, 319, 320, 321, 322, 323, 324, 325, 326, 327, 328, 329, 330, 331, 332, 333, 334, 335] (by decide +kernel) (by decide +kernel)) (goodIn_sub (fun _ h => List.mem_cons_of_mem _ (List.mem_append_right _ h)) (by decide +kernel))
set_option maxRecDepth 20000 in
theorem gL_acts_L_removes : GoodIn wsL_acts (va_wsS RL 98 yL_removes wsL_removes) := goodIn_app (goodIn_of _ (by decide +kernel)) ggL_acts_L_removes
set_option maxRecDepth 20000 in
theorem ggL_acts_L_values : GoodIn wsL_acts wsL_values := goodIn_ca (goodIn_r _ [189, 171, 5, 190, 191, 192, 23, 193, 25, 26, 176, 177, 178, 179, 180, 181, 182, 90, 91, 36, 92, 38, 39, 40, 41, 42, 43, 44, 45, 46, 47, 48, 49, 50, 51, 52, 53, 54, 55, 56, 57, 58, 59, 60, 61, 62, 63, 194, 195, 196, 197, 89, 73, 74, 75, 76, 77, 78, 79, 80, 81, 82, 83, 84, 93, 94, 95, 96, 97, 98, 99, 100, 101, 102, 103, 104, 105, 106, 107, 108, 109, 110, 111, 112, 113, 86, 87, 88, 114, 115, 116, 117, 118, 119, 120, 121, 122, 123, 124, 125, 126, 127, 128, 129, 318, 319, 320, 321, 322, 323, 324, 325, 326, 327, 328, 329, 330, 331, 332, 333, 334, 335] (by decide +kernel) (by decide +kernel)) (goodIn_sub (fun _ h => List.mem_cons_of_mem _ (List.mem_append_right _ h)) (by decide +kernel))
set_option maxRecDepth 20000 in
theorem gL_acts_L_values : GoodIn wsL_acts (va_wsS RL 102 yL_values wsL_values) := goodIn_app (goodIn_of _ (by decide +kernel)) ggL_acts_L_values
set_option maxRecDepth 20000 in
theorem ggL_acts_L_swapsAt : GoodIn wsL_acts wsL_swapsAt := goodIn_ca (goodIn_r _ [200, 171, 4, 201, 202, 203, 23, 204, 180, 181, 26, 25, 205, 123, 124, 36, 125, 38, 39, 40, 41, 42, 43, 44, 45, 46, 47, 48, 49, 50, 51, 52, 53, 54, 55, 56, 57, 58, 59, 60, 61, 62, 63, 206, 207, 208, 209, 122, 118, 119, 120, 121, 81, 82, 83, 84, 210, 127, 128, 129, 93, 94, 95, 96, 97, 98, 99, 100, 101, 102, 103, 104, 105, 106, 107, 108, 109, 110, 111, 112, 113, 86, 87, 88, 89, 90, 91, 92, 114, 115, 116, 117, 126, 318, 319, 320, 321, 322, 323, 324, 325, 326, 327, 328, 329, 330, 331, 332, 333, 334, 335] (by decide +kernel) (by decide +kernel)) (goodIn_sub (fun _ h => List.mem_cons_of_mem _ (List.mem_append_right _ h)) (by decide +kernel))
set_option maxRecDepth 20000 in
theorem gL_acts_L_swapsAt : GoodIn wsL_acts (va_wsS RL 106 yL_swapsAt wsL_swapsAt) := goodIn_app (goodIn_of _ (by decide +kernel)) ggL_acts_L_swapsAt
set_option maxRecDepth 20000 in
theorem ggL_acts_L_inversions : GoodIn wsL_acts wsL_inversions := goodIn_r _ [213, 136, 137, 9, 138] (by decide +kernel) (by decide +kernel)
set_option maxRecDepth 20000 in
theorem gL_acts_L_inversions : GoodIn wsL_acts (va_wsS RL 109 yL_inversions wsL_inversions) := goodIn_app (goodIn_of _ (by decide +kernel)) ggL_acts_L_inversions
set_option maxRecDepth 20000 in
theorem ggL_acts_L_swap : GoodIn wsL_acts wsL_swap := goodIn_r _ [156] (by decide +kernel) (by decide +kernel)
set_option maxRecDepth 20000 in
theorem gL_acts_L_swap : GoodIn wsL_acts (va_wsS RL 61 yL_swap wsL_swap) := goodIn_app (goodIn_of _ (by decide +kernel)) ggL_acts_L_swap
set_option maxRecDepth 20000 in
theorem ggL_acts_L_broken : GoodIn wsL_acts wsL_broken := goodIn_r _ [216, 148, 149, 9, 150, 133, 134, 135, 136, 137, 138] (by decide +kernel) (by decide +kernel)
set_option maxRecDepth 20000 in
theorem gL_acts_L_broken : GoodIn wsL_acts (va_wsS RL 113 yL_broken wsL_broken) := goodIn_app (goodIn_of _ (by decide +kernel)) ggL_acts_L_broken
set_option maxRecDepth 20000 in
theorem ggL_acts_L_bounds : GoodIn wsL_acts wsL_bounds := goodIn_ca (goodIn_r _ [219, 160, 3, 220, 221, 222, 23, 223, 25, 26, 224, 225, 226, 227, 165, 166, 228, 229, 230, 36, 231, 39, 40, 41, 42, 43, 44, 45, 46, 47, 48, 49, 50, 51, 52, 53, 54, 55, 56, 57, 38, 58, 59, 60, 61, 62, 63, 232, 233, 234, 235, 236, 237, 238, 239, 240, 241, 242, 243, 244, 245, 246, 247, 248, 109, 110, 111, 112, 113, 86, 87, 88, 89, 90, 91, 92, 249, 250, 251, 252, 253, 254, 255, 93, 94, 95, 96, 97, 98, 99, 100, 101, 102, 103, 104, 105, 106, 107, 108, 114, 115, 116, 117, 118, 119, 120, 121, 122, 123, 124, 125, 81, 82, 83, 84, 126, 127, 128, 129, 318, 319, 320, 321, 322, 333, 334, 335, 323, 324, 325, 326, 327, 328, 329, 330, 331, 332] (by decide +kernel) (by decide +kernel)) (goodIn_sub (fun _ h => List.mem_cons_of_mem _ (List.mem_append_left _ (List.mem_append_right _ h))) (by decide +kernel))
