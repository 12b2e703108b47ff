set_option maxRecDepth 20000 in
theorem gL_law_L_wholeOf : GoodIn wsL_law (va_wsS RL 166 yL_wholeOf wsL_wholeOf) := goodIn_app (goodIn_of _ (by decide +kernel)) ggL_law_L_wholeOf
set_option maxRecDepth 20000 in
theorem ggL_law_L_atOf : GoodIn wsL_law wsL_atOf := goodIn_ca (goodIn_r _ [71, 72, 7, 73, 74, 75, 2, 76, 18, 77, 78, 79, 80, 81, 82, 83, 84, 85, 17, 86, 87, 424, 425, 426, 427, 428, 429, 430, 431, 432, 433, 434, 435, 436, 437, 438] (by decide +kernel) (by decide +kernel)) (goodIn_sub (fun _ h => List.mem_append_left _ (List.mem_append_left _ (List.mem_append_right _ h))) (by decide +kernel))
set_option maxRecDepth 20000 in
theorem gL_law_L_atOf : GoodIn wsL_law (va_wsS RL 149 yL_atOf wsL_atOf) := goodIn_app (goodIn_of _ (by decide +kernel)) ggL_law_L_atOf
set_option maxRecDepth 20000 in
theorem ggL_law_L_elementOf : GoodIn wsL_law wsL_elementOf := goodIn_ca (goodIn_ca (goodIn_r _ [90, 72, 91, 8, 6, 92, 93, 94, 2, 95, 96, 97, 77, 78, 79, 80, 81, 82, 18, 83, 84, 85, 17, 86, 87, 98, 99, 100, 101, 102, 103, 104, 105, 37, 106, 107, 108, 109, 110, 111, 112, 113, 114, 38, 115, 116, 117, 118, 119, 35, 120, 121, 122, 123, 124, 125, 126, 127, 128, 129, 130, 131, 132, 424, 425, 426, 427, 428, 429, 430, 431, 432, 433, 434, 435, 436, 437, 438] (by decide +kernel) (by decide +kernel)) (goodIn_sub (fun _ h => List.mem_append_left _ (List.mem_append_right _ h)) (by decide +kernel))) (goodIn_sub (fun _ h => List.mem_append_left _ (List.mem_append_left _ (List.mem_append_right _ h))) (by decide +kernel))
set_option maxRecDepth 20000 in
theorem gL_law_L_elementOf : GoodIn wsL_law (va_wsS RL 153 yL_elementOf wsL_elementOf) := goodIn_app (goodIn_of _ (by decide +kernel)) ggL_law_L_elementOf
set_option maxRecDepth 20000 in
theorem ggL_law_L_rankedOf : GoodIn wsL_law wsL_rankedOf := goodIn_ca (goodIn_r _ [135, 72, 7, 136, 137, 138, 2, 139, 81, 82, 18, 140, 141, 142, 17, 143, 87, 37, 83, 84, 85, 86, 424, 425, 426, 427, 428, 429, 430, 431, 432, 433, 434, 435, 436, 437, 438] (by decide +kernel) (by decide +kernel)) (goodIn_sub (fun _ h => List.mem_append_left _ (List.mem_append_left _ (List.mem_append_right _ h))) (by decide +kernel))
set_option maxRecDepth 20000 in
theorem gL_law_L_rankedOf : GoodIn wsL_law (va_wsS RL 157 yL_rankedOf wsL_rankedOf) := goodIn_app (goodIn_of _ (by decide +kernel)) ggL_law_L_rankedOf
