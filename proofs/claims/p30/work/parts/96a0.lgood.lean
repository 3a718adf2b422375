theorem goodIn_cc {big a : List Cond} {c : Cond} (h0 : GoodIn big [c]) (ha : GoodIn big a) : GoodIn big (c :: a) := fun w h => (List.mem_cons.mp h).elim (fun e => h0 w (List.mem_cons.mpr (Or.inl e))) (fun h => ha w h)
set_option maxRecDepth 20000 in
theorem ggL_packer_L_draw : GoodIn wsL_packer wsL_draw := goodIn_r _ [79, 80, 81, 82] (by decide +kernel) (by decide +kernel)
set_option maxRecDepth 20000 in
theorem gL_packer_L_draw : GoodIn wsL_packer (va_wsS RL 140 yL_draw wsL_draw) := goodIn_app (goodIn_of _ (by decide +kernel)) ggL_packer_L_draw
set_option maxRecDepth 20000 in
theorem ggL_packer_X9_spare : GoodIn wsL_packer wsX9_spare := goodIn_r _ [155, 16, 156, 157, 158, 15, 159, 42, 160, 161, 162, 163, 164, 165, 166, 543, 544, 545, 546, 547, 548, 549, 550, 551] (by decide +kernel) (by decide +kernel)
set_option maxRecDepth 20000 in
theorem gL_packer_X9_spare : GoodIn wsL_packer (wsV RL 147 RX9 yX9_spare wsX9_spare) := goodIn_app (goodIn_of _ (by decide +kernel)) ggL_packer_X9_spare
set_option maxRecDepth 20000 in
theorem ggL_packer_L_many : GoodIn wsL_packer wsL_many := goodIn_r _ [169] (by decide +kernel) (by decide +kernel)
set_option maxRecDepth 20000 in
theorem gL_packer_L_many : GoodIn wsL_packer (va_wsS RL 150 yL_many wsL_many) := goodIn_app (goodIn_of _ (by decide +kernel)) ggL_packer_L_many
