set_option maxRecDepth 20000 in
theorem ggL_isReceived_X9_place : GoodIn wsL_isReceived wsX9_place := goodIn_ca (goodIn_r _ [131, 12, 13, 14, 10, 15, 16, 17, 18, 19, 20, 21, 22, 23, 24, 25, 158, 159, 160, 161, 162, 163, 164, 165, 166, 167, 149, 150, 151, 152, 153, 154, 155, 156, 157] (by decide +kernel) (by decide +kernel)) (goodIn_sub (fun _ h => List.mem_cons_of_mem _ (List.mem_append_left _ (List.mem_append_left _ (List.mem_append_right _ h)))) (by decide +kernel))
set_option maxRecDepth 20000 in
theorem gL_isReceived_X9_place : GoodIn wsL_isReceived (wsV RL 55 RX9 yX9_place wsX9_place) := goodIn_app (goodIn_of _ (by decide +kernel)) ggL_isReceived_X9_place
set_option maxRecDepth 20000 in
theorem ggL_isReceived_X9_samples : GoodIn wsL_isReceived wsX9_samples := goodIn_ca (goodIn_r _ [135, 12, 13, 14, 10, 15, 16, 17, 18, 19, 20, 21, 22, 23, 24, 25, 158, 159, 160, 161, 162, 163, 164, 165, 166, 167, 149, 150, 151, 152, 153, 154, 155, 156, 157] (by decide +kernel) (by decide +kernel)) (goodIn_sub (fun _ h => List.mem_cons_of_mem _ (List.mem_append_left _ (List.mem_append_left _ (List.mem_append_right _ h)))) (by decide +kernel))
set_option maxRecDepth 20000 in
theorem gL_isReceived_X9_samples : GoodIn wsL_isReceived (wsV RL 70 RX9 yX9_samples wsX9_samples) := goodIn_app (goodIn_of _ (by decide +kernel)) ggL_isReceived_X9_samples
set_option maxRecDepth 20000 in
theorem ggL_isReceived_X9_missing : GoodIn wsL_isReceived wsX9_missing := goodIn_ca (goodIn_r _ [139, 12, 13, 14, 10, 15, 16, 17, 18, 19, 20, 21, 22, 23, 24, 25, 158, 159, 160, 161, 162, 163, 164, 165, 166, 167, 149, 150, 151, 152, 153, 154, 155, 156, 157] (by decide +kernel) (by decide +kernel)) (goodIn_sub (fun _ h => List.mem_cons_of_mem _ (List.mem_append_left _ (List.mem_append_left _ (List.mem_append_right _ h)))) (by decide +kernel))
set_option maxRecDepth 20000 in
theorem gL_isReceived_X9_missing : GoodIn wsL_isReceived (wsV RL 73 RX9 yX9_missing wsX9_missing) := goodIn_app (goodIn_of _ (by decide +kernel)) ggL_isReceived_X9_missing
set_option maxRecDepth 20000 in
theorem ggL_isReceived_L_least : GoodIn wsL_isReceived wsL_least := goodIn_r _ [142] (by decide +kernel) (by decide +kernel)
set_option maxRecDepth 20000 in
theorem gL_isReceived_L_least : GoodIn wsL_isReceived (va_wsS RL 76 yL_least wsL_least) := goodIn_app (goodIn_of _ (by decide +kernel)) ggL_isReceived_L_least
set_option maxRecDepth 20000 in
theorem ggL_isReceived_L_most : GoodIn wsL_isReceived wsL_most := goodIn_r _ [145] (by decide +kernel) (by decide +kernel)
set_option maxRecDepth 20000 in
theorem gL_isReceived_L_most : GoodIn wsL_isReceived (va_wsS RL 80 yL_most wsL_most) := goodIn_app (goodIn_of _ (by decide +kernel)) ggL_isReceived_L_most
set_option maxRecDepth 20000 in
theorem ggL_areBits_X9_sent : GoodIn wsL_areBits wsX9_sent := goodIn_r _ [5, 6, 69, 70, 71, 72, 73, 74, 75, 76] (by decide +kernel) (by decide +kernel)
set_option maxRecDepth 20000 in
theorem gL_areBits_X9_sent : GoodIn wsL_areBits (wsV RL 83 RX9 yX9_sent wsX9_sent) := goodIn_app (goodIn_of _ (by decide +kernel)) ggL_areBits_X9_sent
set_option maxRecDepth 20000 in
theorem ggL_areBits_X9_onLine : GoodIn wsL_areBits wsX9_onLine := goodIn_r _ [10, 11, 12, 13, 14, 15, 16, 17, 18, 69, 70, 71, 72, 73, 74, 77, 78, 79] (by decide +kernel) (by decide +kernel)
set_option maxRecDepth 20000 in
theorem gL_areBits_X9_onLine : GoodIn wsL_areBits (wsV RL 86 RX9 yX9_onLine wsX9_onLine) := goodIn_app (goodIn_of _ (by decide +kernel)) ggL_areBits_X9_onLine
set_option maxRecDepth 20000 in
theorem ggL_areBits_X9_taken : GoodIn wsL_areBits wsX9_taken := goodIn_r _ [22, 23, 69, 70, 71, 72, 73, 74, 80, 81, 82, 83, 84, 85, 86] (by decide +kernel) (by decide +kernel)
set_option maxRecDepth 20000 in
theorem gL_areBits_X9_taken : GoodIn wsL_areBits (wsV RL 89 RX9 yX9_taken wsX9_taken) := goodIn_app (goodIn_of _ (by decide +kernel)) ggL_areBits_X9_taken
