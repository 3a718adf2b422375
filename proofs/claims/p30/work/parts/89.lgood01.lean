set_option maxRecDepth 20000 in
theorem ggL_points_L_place : GoodIn wsL_points wsL_place := goodIn_r _ [10] (by decide +kernel) (by decide +kernel)
set_option maxRecDepth 20000 in
theorem gL_points_L_place : GoodIn wsL_points (va_wsS RL 45 yL_place wsL_place) := goodIn_app (goodIn_of _ (by decide +kernel)) ggL_points_L_place
set_option maxRecDepth 20000 in
theorem ggL_points_L_adds : GoodIn wsL_points wsL_adds := goodIn_ca (goodIn_ca (goodIn_r _ [13, 14, 15, 16, 17, 4, 18, 19, 20, 21, 22, 23, 6, 24, 25, 26, 27, 28, 29, 30, 31, 32, 33, 34, 35, 36, 37, 38, 39, 40, 41, 42, 43, 44, 45, 46, 47, 48, 49, 50, 51, 52, 53, 54, 55, 56, 57, 58, 59, 60, 61, 62, 63, 64, 65, 66, 67, 82, 83, 84, 85, 86, 87, 91, 92, 88, 89, 90, 93, 94, 95, 96, 97, 98, 99, 100, 101, 102, 103, 104, 105] (by decide +kernel) (by decide +kernel)) (goodIn_sub (fun _ h => List.mem_cons_of_mem _ (List.mem_append_left _ (List.mem_append_left _ (List.mem_append_right _ h)))) (by decide +kernel))) (goodIn_sub (fun _ h => List.mem_cons_of_mem _ (List.mem_append_left _ (List.mem_append_right _ h))) (by decide +kernel))
set_option maxRecDepth 20000 in
theorem gL_points_L_adds : GoodIn wsL_points (va_wsS RL 51 yL_adds wsL_adds) := goodIn_app (goodIn_of _ (by decide +kernel)) ggL_points_L_adds
set_option maxRecDepth 20000 in
theorem ggL_points_X9_place : GoodIn wsL_points wsX9_place := goodIn_ca (goodIn_r _ [71, 72, 73, 74, 4, 75, 76, 77, 6, 78, 79, 80, 30, 81, 32, 33, 93, 94, 95, 96, 97, 98, 99, 100, 101, 102, 82, 83, 84, 85, 86, 87, 88, 89, 90] (by decide +kernel) (by decide +kernel)) (goodIn_sub (fun _ h => List.mem_cons_of_mem _ (List.mem_append_right _ h)) (by decide +kernel))
set_option maxRecDepth 20000 in
theorem gL_points_X9_place : GoodIn wsL_points (wsV RL 55 RX9 yX9_place wsX9_place) := goodIn_app (goodIn_of _ (by decide +kernel)) ggL_points_X9_place
set_option maxRecDepth 20000 in
theorem ggL_isReceived_L_asks : GoodIn wsL_isReceived wsL_asks := goodIn_ca (goodIn_ca (goodIn_ca (goodIn_r _ [5, 6, 1, 7, 8, 9, 10, 11, 12, 13, 14, 15, 16, 17, 18, 19, 20, 21, 22, 23, 24, 25, 26, 27, 28, 29, 30, 31, 32, 33, 34, 35, 36, 37, 38, 39, 40, 41, 42, 43, 44, 45, 46, 47, 48, 49, 50, 51, 52, 53, 54, 55, 56, 57, 58, 59, 60, 61, 62, 63, 64, 65, 66, 67, 68, 69, 70, 71, 72, 73, 74, 75, 76, 77, 78, 79, 80, 81, 82, 83, 84, 85, 86, 87, 88, 89, 90, 91, 92, 93, 94, 95, 96, 97, 98, 99, 100, 101, 102, 103, 104, 105, 106, 107, 108, 109, 110, 111, 146, 147, 148, 149, 150, 151, 152, 153, 154, 155, 156, 157, 158, 159, 160, 161, 162, 163, 164, 165, 166, 167, 168, 169, 170, 171, 172, 173, 174, 175, 176, 177, 178] (by decide +kernel) (by decide +kernel)) (goodIn_sub (fun _ h => List.mem_cons_of_mem _ (List.mem_append_left _ (List.mem_append_left _ (List.mem_append_right _ h)))) (by decide +kernel))) (goodIn_sub (fun _ h => List.mem_cons_of_mem _ (List.mem_append_left _ (List.mem_append_right _ h))) (by decide +kernel))) (goodIn_sub (fun _ h => List.mem_cons_of_mem _ (List.mem_append_right _ h)) (by decide +kernel))
set_option maxRecDepth 20000 in
theorem gL_isReceived_L_asks : GoodIn wsL_isReceived (va_wsS RL 57 yL_asks wsL_asks) := goodIn_app (goodIn_of _ (by decide +kernel)) ggL_isReceived_L_asks
set_option maxRecDepth 20000 in
theorem ggL_isReceived_X9_frames : GoodIn wsL_isReceived wsX9_frames := goodIn_r _ [115, 39, 149, 150, 151, 152, 153, 154, 168, 169, 170, 171, 172] (by decide +kernel) (by decide +kernel)
set_option maxRecDepth 20000 in
theorem gL_isReceived_X9_frames : GoodIn wsL_isReceived (wsV RL 61 RX9 yX9_frames wsX9_frames) := goodIn_app (goodIn_of _ (by decide +kernel)) ggL_isReceived_X9_frames
set_option maxRecDepth 20000 in
theorem ggL_isReceived_X9_lost : GoodIn wsL_isReceived wsX9_lost := goodIn_r _ [119, 39, 149, 150, 151, 152, 153, 154, 168, 169, 170, 171, 172] (by decide +kernel) (by decide +kernel)
set_option maxRecDepth 20000 in
theorem gL_isReceived_X9_lost : GoodIn wsL_isReceived (wsV RL 64 RX9 yX9_lost wsX9_lost) := goodIn_app (goodIn_of _ (by decide +kernel)) ggL_isReceived_X9_lost
set_option maxRecDepth 20000 in
theorem ggL_isReceived_X9_repeats : GoodIn wsL_isReceived wsX9_repeats := goodIn_r _ [123, 39, 149, 150, 151, 152, 153, 154, 168, 169, 170, 171, 172] (by decide +kernel) (by decide +kernel)
set_option maxRecDepth 20000 in
theorem gL_isReceived_X9_repeats : GoodIn wsL_isReceived (wsV RL 67 RX9 yX9_repeats wsX9_repeats) := goodIn_app (goodIn_of _ (by decide +kernel)) ggL_isReceived_X9_repeats
set_option maxRecDepth 20000 in
theorem ggL_isReceived_X9_points : GoodIn wsL_isReceived wsX9_points := goodIn_r _ [127, 18, 149, 150, 151, 152, 153, 154, 155, 156, 157] (by decide +kernel) (by decide +kernel)
set_option maxRecDepth 20000 in
theorem gL_isReceived_X9_points : GoodIn wsL_isReceived (wsV RL 42 RX9 yX9_points wsX9_points) := goodIn_app (goodIn_of _ (by decide +kernel)) ggL_isReceived_X9_points
