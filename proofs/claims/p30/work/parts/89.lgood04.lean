set_option maxRecDepth 20000 in
theorem ggL_isWhole_X9_state : GoodIn wsL_isWhole wsX9_state := goodIn_r _ [18, 19, 71, 72, 73, 74, 75, 76, 82, 83, 84, 85, 86, 87, 88] (by decide +kernel) (by decide +kernel)
set_option maxRecDepth 20000 in
theorem gL_isWhole_X9_state : GoodIn wsL_isWhole (wsV RL 92 RX9 yX9_state wsX9_state) := goodIn_app (goodIn_of _ (by decide +kernel)) ggL_isWhole_X9_state
set_option maxRecDepth 20000 in
theorem ggL_isWhole_X9_matches : GoodIn wsL_isWhole wsX9_matches := goodIn_ca (goodIn_r _ [23, 24, 25, 19, 26, 27, 28, 29, 30, 31, 71, 72, 73, 74, 75, 76, 82, 83, 84, 85, 86, 87, 88] (by decide +kernel) (by decide +kernel)) (goodIn_sub (fun _ h => List.mem_cons_of_mem _ (List.mem_append_left _ (List.mem_append_left _ (List.mem_append_right _ h)))) (by decide +kernel))
set_option maxRecDepth 20000 in
theorem gL_isWhole_X9_matches : GoodIn wsL_isWhole (wsV RL 95 RX9 yX9_matches wsX9_matches) := goodIn_app (goodIn_of _ (by decide +kernel)) ggL_isWhole_X9_matches
set_option maxRecDepth 20000 in
theorem ggL_isWhole_X9_points : GoodIn wsL_isWhole wsX9_points := goodIn_r _ [35, 36, 71, 72, 73, 74, 75, 76, 89, 90, 91] (by decide +kernel) (by decide +kernel)
set_option maxRecDepth 20000 in
theorem gL_isWhole_X9_points : GoodIn wsL_isWhole (wsV RL 42 RX9 yX9_points wsX9_points) := goodIn_app (goodIn_of _ (by decide +kernel)) ggL_isWhole_X9_points
set_option maxRecDepth 20000 in
theorem ggL_isWhole_X9_place : GoodIn wsL_isWhole wsX9_place := goodIn_ca (goodIn_r _ [40, 41, 42, 43, 4, 44, 45, 46, 36, 47, 48, 49, 50, 51, 52, 53, 92, 93, 94, 95, 96, 97, 98, 99, 100, 101, 71, 72, 73, 74, 75, 76, 89, 90, 91] (by decide +kernel) (by decide +kernel)) (goodIn_sub (fun _ h => List.mem_cons_of_mem _ (List.mem_append_left _ (List.mem_append_right _ h))) (by decide +kernel))
set_option maxRecDepth 20000 in
theorem gL_isWhole_X9_place : GoodIn wsL_isWhole (wsV RL 55 RX9 yX9_place wsX9_place) := goodIn_app (goodIn_of _ (by decide +kernel)) ggL_isWhole_X9_place
set_option maxRecDepth 20000 in
theorem ggL_isWhole_X9_value : GoodIn wsL_isWhole wsX9_value := goodIn_ca (goodIn_ca (goodIn_r _ [57, 41, 42, 43, 4, 44, 45, 46, 36, 47, 48, 49, 50, 51, 52, 53, 58, 59, 60, 61, 62, 102, 103, 104, 71, 72, 73, 74, 75, 76, 89, 90, 91, 92, 93, 94, 95, 96, 97, 98, 99, 100, 101] (by decide +kernel) (by decide +kernel)) (goodIn_sub (fun _ h => List.mem_cons_of_mem _ (List.mem_append_left _ (List.mem_append_right _ h))) (by decide +kernel))) (goodIn_sub (fun _ h => List.mem_cons_of_mem _ (List.mem_append_right _ h)) (by decide +kernel))
set_option maxRecDepth 20000 in
theorem gL_isWhole_X9_value : GoodIn wsL_isWhole (wsV RL 10 RX9 yX9_value wsX9_value) := goodIn_app (goodIn_of _ (by decide +kernel)) ggL_isWhole_X9_value
set_option maxRecDepth 20000 in
theorem ggL_isWhole_X9_time : GoodIn wsL_isWhole wsX9_time := goodIn_ca (goodIn_ca (goodIn_r _ [66, 41, 42, 43, 4, 44, 45, 46, 36, 47, 48, 49, 50, 51, 52, 53, 58, 59, 60, 61, 62, 102, 103, 104, 71, 72, 73, 74, 75, 76, 89, 90, 91, 92, 93, 94, 95, 96, 97, 98, 99, 100, 101] (by decide +kernel) (by decide +kernel)) (goodIn_sub (fun _ h => List.mem_cons_of_mem _ (List.mem_append_left _ (List.mem_append_right _ h))) (by decide +kernel))) (goodIn_sub (fun _ h => List.mem_cons_of_mem _ (List.mem_append_right _ h)) (by decide +kernel))
set_option maxRecDepth 20000 in
theorem gL_isWhole_X9_time : GoodIn wsL_isWhole (wsV RL 16 RX9 yX9_time wsX9_time) := goodIn_app (goodIn_of _ (by decide +kernel)) ggL_isWhole_X9_time
set_option maxRecDepth 20000 in
theorem ggL_isWhole_X9_missing : GoodIn wsL_isWhole wsX9_missing := goodIn_ca (goodIn_r _ [70, 41, 42, 43, 4, 44, 45, 46, 36, 47, 48, 49, 50, 51, 52, 53, 92, 93, 94, 95, 96, 97, 98, 99, 100, 101, 71, 72, 73, 74, 75, 76, 89, 90, 91] (by decide +kernel) (by decide +kernel)) (goodIn_sub (fun _ h => List.mem_cons_of_mem _ (List.mem_append_left _ (List.mem_append_right _ h))) (by decide +kernel))
set_option maxRecDepth 20000 in
theorem gL_isWhole_X9_missing : GoodIn wsL_isWhole (wsV RL 73 RX9 yX9_missing wsX9_missing) := goodIn_app (goodIn_of _ (by decide +kernel)) ggL_isWhole_X9_missing
set_option maxRecDepth 20000 in
theorem ggL_derives_L_reaches : GoodIn wsL_derives wsL_reaches := goodIn_r _ [4] (by decide +kernel) (by decide +kernel)
set_option maxRecDepth 20000 in
theorem gL_derives_L_reaches : GoodIn wsL_derives (va_wsS RL 107 yL_reaches wsL_reaches) := goodIn_app (goodIn_of _ (by decide +kernel)) ggL_derives_L_reaches
