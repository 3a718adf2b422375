set_option maxRecDepth 20000 in
theorem bg_ggL_law_L_packer_wsX80 : GoodIn wsL_law wsX80 := goodIn_r _ [559, 560, 561, 562, 563, 564, 565] (by decide +kernel) (by decide +kernel)
set_option maxRecDepth 20000 in
theorem bg_ggL_law_L_packer_wsX00 : GoodIn wsL_law wsX00 := goodIn_r _ [566, 567, 568, 569, 570] (by decide +kernel) (by decide +kernel)
set_option maxRecDepth 20000 in
theorem bg_ggL_law_L_packer_wsX20 : GoodIn wsL_law wsX20 := goodIn_r _ [571] (by decide +kernel) (by decide +kernel)
set_option maxRecDepth 20000 in
theorem bg_ggL_law_L_packer_wsX10 : GoodIn wsL_law wsX10 := goodIn_r _ [572, 573, 574, 575, 576] (by decide +kernel) (by decide +kernel)
set_option maxRecDepth 20000 in
theorem bg_ggL_law_L_packer_wsX60 : GoodIn wsL_law wsX60 := goodIn_r _ [577, 578, 579] (by decide +kernel) (by decide +kernel)
set_option maxRecDepth 20000 in
theorem bg_ggL_law_L_packer_wsX40 : GoodIn wsL_law wsX40 := goodIn_r _ [580, 581, 582, 583, 584, 585, 586, 587, 588, 589] (by decide +kernel) (by decide +kernel)
