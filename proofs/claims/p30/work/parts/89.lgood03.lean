set_option maxRecDepth 20000 in
theorem ggL_areBits_X9_state : GoodIn wsL_areBits wsX9_state := goodIn_r _ [27, 23, 69, 70, 71, 72, 73, 74, 80, 81, 82, 83, 84, 85, 86] (by decide +kernel) (by decide +kernel)
set_option maxRecDepth 20000 in
theorem gL_areBits_X9_state : GoodIn wsL_areBits (wsV RL 92 RX9 yX9_state wsX9_state) := goodIn_app (goodIn_of _ (by decide +kernel)) ggL_areBits_X9_state
set_option maxRecDepth 20000 in
theorem ggL_areBits_X9_matches : GoodIn wsL_areBits wsX9_matches := goodIn_ca (goodIn_r _ [31, 32, 33, 23, 34, 35, 36, 37, 38, 39, 69, 70, 71, 72, 73, 74, 80, 81, 82, 83, 84, 85, 86] (by decide +kernel) (by decide +kernel)) (goodIn_sub (fun _ h => List.mem_cons_of_mem _ (List.mem_append_left _ (List.mem_append_right _ h))) (by decide +kernel))
set_option maxRecDepth 20000 in
theorem gL_areBits_X9_matches : GoodIn wsL_areBits (wsV RL 95 RX9 yX9_matches wsX9_matches) := goodIn_app (goodIn_of _ (by decide +kernel)) ggL_areBits_X9_matches
set_option maxRecDepth 20000 in
theorem ggL_areBits_X9_bestOffset : GoodIn wsL_areBits wsX9_bestOffset := goodIn_r _ [43, 23, 34, 35, 36, 37, 38, 39, 69, 70, 71, 72, 73, 74, 80, 81, 82, 83, 84, 85, 86] (by decide +kernel) (by decide +kernel)
set_option maxRecDepth 20000 in
theorem gL_areBits_X9_bestOffset : GoodIn wsL_areBits (wsV RL 98 RX9 yX9_bestOffset wsX9_bestOffset) := goodIn_app (goodIn_of _ (by decide +kernel)) ggL_areBits_X9_bestOffset
set_option maxRecDepth 20000 in
theorem ggL_areBits_X9_bit : GoodIn wsL_areBits wsX9_bit := goodIn_ca (goodIn_r _ [47, 48, 49, 11, 50, 51, 52, 15, 53, 54, 13, 14, 16, 17, 18, 55, 56, 57, 58, 59, 60, 69, 70, 71, 72, 73, 74, 77, 78, 79] (by decide +kernel) (by decide +kernel)) (goodIn_sub (fun _ h => List.mem_cons_of_mem _ (List.mem_append_right _ h)) (by decide +kernel))
set_option maxRecDepth 20000 in
theorem gL_areBits_X9_bit : GoodIn wsL_areBits (wsV RL 101 RX9 yX9_bit wsX9_bit) := goodIn_app (goodIn_of _ (by decide +kernel)) ggL_areBits_X9_bit
set_option maxRecDepth 20000 in
theorem ggL_areBits_X9_flip : GoodIn wsL_areBits wsX9_flip := goodIn_ca (goodIn_r _ [64, 48, 49, 11, 50, 51, 52, 15, 53, 54, 13, 14, 16, 17, 18, 65, 66, 67, 68, 59, 60, 69, 70, 71, 72, 73, 74, 77, 78, 79] (by decide +kernel) (by decide +kernel)) (goodIn_sub (fun _ h => List.mem_cons_of_mem _ (List.mem_append_right _ h)) (by decide +kernel))
set_option maxRecDepth 20000 in
theorem gL_areBits_X9_flip : GoodIn wsL_areBits (wsV RL 104 RX9 yX9_flip wsX9_flip) := goodIn_app (goodIn_of _ (by decide +kernel)) ggL_areBits_X9_flip
set_option maxRecDepth 20000 in
theorem ggL_isWhole_X9_lost : GoodIn wsL_isWhole wsX9_lost := goodIn_r _ [5, 6, 71, 72, 73, 74, 75, 76, 77, 78, 79, 80, 81] (by decide +kernel) (by decide +kernel)
set_option maxRecDepth 20000 in
theorem gL_isWhole_X9_lost : GoodIn wsL_isWhole (wsV RL 64 RX9 yX9_lost wsX9_lost) := goodIn_app (goodIn_of _ (by decide +kernel)) ggL_isWhole_X9_lost
set_option maxRecDepth 20000 in
theorem ggL_isWhole_X9_repeats : GoodIn wsL_isWhole wsX9_repeats := goodIn_r _ [10, 6, 71, 72, 73, 74, 75, 76, 77, 78, 79, 80, 81] (by decide +kernel) (by decide +kernel)
set_option maxRecDepth 20000 in
theorem gL_isWhole_X9_repeats : GoodIn wsL_isWhole (wsV RL 67 RX9 yX9_repeats wsX9_repeats) := goodIn_app (goodIn_of _ (by decide +kernel)) ggL_isWhole_X9_repeats
set_option maxRecDepth 20000 in
theorem ggL_isWhole_X9_frames : GoodIn wsL_isWhole wsX9_frames := goodIn_r _ [14, 6, 71, 72, 73, 74, 75, 76, 77, 78, 79, 80, 81] (by decide +kernel) (by decide +kernel)
set_option maxRecDepth 20000 in
theorem gL_isWhole_X9_frames : GoodIn wsL_isWhole (wsV RL 61 RX9 yX9_frames wsX9_frames) := goodIn_app (goodIn_of _ (by decide +kernel)) ggL_isWhole_X9_frames
