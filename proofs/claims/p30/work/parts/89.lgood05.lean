set_option maxRecDepth 20000 in
theorem ggL_derives_L_sets : GoodIn wsL_derives wsL_sets := goodIn_ca (goodIn_ca (goodIn_r _ [7, 8, 9, 10, 11, 12, 13, 14, 15, 16, 17, 18, 19, 20, 21, 22, 23, 24, 25, 26, 27, 28, 29, 30, 31, 32, 33, 34, 35, 36, 37, 38, 39, 40, 41, 42, 43, 44, 45, 46, 47, 48, 49, 50, 51, 52, 53, 54, 55, 56, 57] (by decide +kernel) (by decide +kernel)) (goodIn_sub (fun _ h => List.mem_cons_of_mem _ (List.mem_append_left _ (List.mem_append_right _ h))) (by decide +kernel))) (goodIn_sub (fun _ h => List.mem_cons_of_mem _ (List.mem_append_right _ h)) (by decide +kernel))
set_option maxRecDepth 20000 in
theorem gL_derives_L_sets : GoodIn wsL_derives (va_wsS RL 111 yL_sets wsL_sets) := goodIn_app (goodIn_of _ (by decide +kernel)) ggL_derives_L_sets
set_option maxRecDepth 20000 in
theorem ggL_areDerived_L_asks : GoodIn wsL_areDerived wsL_asks := goodIn_ca (goodIn_ca (goodIn_ca (goodIn_r _ [8, 9, 2, 10, 11, 12, 13, 14, 15, 16, 17, 18, 19, 20, 21, 22, 23, 24, 25, 26, 27, 28, 29, 30, 31, 32, 33, 34, 35, 36, 37, 38, 39, 40, 41, 42, 43, 44, 45, 46, 47, 48, 49, 50, 51, 52, 53, 54, 55, 56, 57, 58, 59, 60, 61, 62, 63, 64, 65, 66, 67, 68, 69, 70, 71, 72, 73, 74, 75, 76, 77, 78, 79, 80, 81, 82, 83, 84, 85, 86, 87, 88, 89, 90, 91, 92, 93, 94, 95, 96, 97, 98, 99, 100, 101, 102, 103, 104, 105, 106, 107, 108, 109, 110, 111, 112, 113, 114, 119, 120, 121, 122, 123, 124, 125, 126, 127, 128, 129, 130, 131, 132, 133, 134, 135, 136, 137, 138, 139, 140, 141, 142, 143, 144, 145, 146, 147, 148, 149, 150, 151] (by decide +kernel) (by decide +kernel)) (goodIn_sub (fun _ h => List.mem_cons_of_mem _ (List.mem_append_left _ (List.mem_append_left _ (List.mem_append_right _ h)))) (by decide +kernel))) (goodIn_sub (fun _ h => List.mem_cons_of_mem _ (List.mem_append_left _ (List.mem_append_right _ h))) (by decide +kernel))) (goodIn_sub (fun _ h => List.mem_cons_of_mem _ (List.mem_append_right _ h)) (by decide +kernel))
set_option maxRecDepth 20000 in
theorem gL_areDerived_L_asks : GoodIn wsL_areDerived (va_wsS RL 57 yL_asks wsL_asks) := goodIn_app (goodIn_of _ (by decide +kernel)) ggL_areDerived_L_asks
set_option maxRecDepth 20000 in
theorem ggL_areDerived_X9_points : GoodIn wsL_areDerived wsX9_points := goodIn_r _ [118, 21, 122, 123, 124, 125, 126, 127, 128, 129, 130] (by decide +kernel) (by decide +kernel)
set_option maxRecDepth 20000 in
theorem gL_areDerived_X9_points : GoodIn wsL_areDerived (wsV RL 42 RX9 yX9_points wsX9_points) := goodIn_app (goodIn_of _ (by decide +kernel)) ggL_areDerived_X9_points
set_option maxRecDepth 20000 in
theorem ggL_step_X9_points : GoodIn wsL_step wsX9_points := goodIn_r _ [5, 6, 288, 289, 290, 291, 292, 293, 294, 295, 296] (by decide +kernel) (by decide +kernel)
set_option maxRecDepth 20000 in
theorem gL_step_X9_points : GoodIn wsL_step (wsV RL 42 RX9 yX9_points wsX9_points) := goodIn_app (goodIn_of _ (by decide +kernel)) ggL_step_X9_points
set_option maxRecDepth 20000 in
theorem ggL_step_L_least : GoodIn wsL_step wsL_least := goodIn_r _ [10] (by decide +kernel) (by decide +kernel)
set_option maxRecDepth 20000 in
theorem gL_step_L_least : GoodIn wsL_step (va_wsS RL 76 yL_least wsL_least) := goodIn_app (goodIn_of _ (by decide +kernel)) ggL_step_L_least
set_option maxRecDepth 20000 in
theorem ggL_step_L_most : GoodIn wsL_step wsL_most := goodIn_r _ [13] (by decide +kernel) (by decide +kernel)
set_option maxRecDepth 20000 in
theorem gL_step_L_most : GoodIn wsL_step (va_wsS RL 80 yL_most wsL_most) := goodIn_app (goodIn_of _ (by decide +kernel)) ggL_step_L_most
set_option maxRecDepth 20000 in
theorem ggL_step_X9_put : GoodIn wsL_step wsX9_put := goodIn_ca (goodIn_ca (goodIn_r _ [17, 18, 19, 20, 21, 22, 4, 23, 24, 25, 6, 26, 27, 28, 29, 30, 31, 32, 33, 34, 35, 36, 37, 38, 39, 40, 41, 42, 43, 44, 45, 46, 47, 297, 298, 299, 300, 301, 302, 303, 304, 305, 306, 288, 289, 290, 291, 292, 293, 294, 295, 296] (by decide +kernel) (by decide +kernel)) (goodIn_sub (fun _ h => List.mem_cons_of_mem _ (List.mem_append_left _ (List.mem_append_left _ (List.mem_append_right _ h)))) (by decide +kernel))) (goodIn_sub (fun _ h => List.mem_cons_of_mem _ (List.mem_append_left _ (List.mem_append_right _ h))) (by decide +kernel))
set_option maxRecDepth 20000 in
theorem gL_step_X9_put : GoodIn wsL_step (wsV RL 121 RX9 yX9_put wsX9_put) := goodIn_app (goodIn_of _ (by decide +kernel)) ggL_step_X9_put
set_option maxRecDepth 20000 in
theorem ggL_step_X9_send : GoodIn wsL_step wsX9_send := goodIn_ca (goodIn_ca (goodIn_r _ [51, 18, 19, 52, 53, 54, 6, 55, 56, 57, 58, 59, 60, 61, 62, 63, 64, 65, 66, 67, 68, 27, 28, 29, 30, 31, 32, 69, 70, 71, 36, 72, 73, 74, 75, 76, 77, 78, 79, 80, 81, 82, 83, 84, 85, 86, 87, 88, 38, 43, 39, 40, 41, 42, 89, 90, 91, 92, 93, 94, 95, 96, 97, 98, 99, 100, 101, 102, 103, 104, 105, 288, 289, 290, 291, 292, 293, 307, 308, 294, 295, 296, 297, 298, 299, 300, 301, 302, 303, 304, 305, 306, 309, 310, 311] (by decide +kernel) (by decide +kernel)) (goodIn_sub (fun _ h => List.mem_cons_of_mem _ (List.mem_append_left _ (List.mem_append_left _ (List.mem_append_right _ h)))) (by decide +kernel))) (goodIn_sub (fun _ h => List.mem_cons_of_mem _ (List.mem_append_right _ h)) (by decide +kernel))
set_option maxRecDepth 20000 in
theorem gL_step_X9_send : GoodIn wsL_step (wsV RL 125 RX9 yX9_send wsX9_send) := goodIn_app (goodIn_of _ (by decide +kernel)) ggL_step_X9_send
