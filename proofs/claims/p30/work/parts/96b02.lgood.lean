set_option maxRecDepth 20000 in
theorem bg_ggL_packer_L_step_wsX50 : GoodIn wsL_packer wsX50 := goodIn_r _ [549, 550, 551] (by decide +kernel) (by decide +kernel)
set_option maxRecDepth 20000 in
theorem bg_ggL_packer_L_step_wsX40 : GoodIn wsL_packer wsX40 := goodIn_r _ [578, 579, 580, 581, 582, 583, 584, 585, 586, 587] (by decide +kernel) (by decide +kernel)
set_option maxRecDepth 20000 in
theorem bg_ggL_packer_L_step_wsX70 : GoodIn wsL_packer wsX70 := goodIn_r _ [555, 556] (by decide +kernel) (by decide +kernel)
set_option maxRecDepth 20000 in
theorem bg_ggL_packer_L_step_wsX30 : GoodIn wsL_packer wsX30 := goodIn_r _ [552, 553, 554] (by decide +kernel) (by decide +kernel)
set_option maxRecDepth 20000 in
theorem bg_ggL_packer_L_step_wsX80 : GoodIn wsL_packer wsX80 := goodIn_r _ [557, 558, 559, 560, 561, 562, 563] (by decide +kernel) (by decide +kernel)
set_option maxRecDepth 20000 in
theorem bg_ggL_packer_L_step_wsX00 : GoodIn wsL_packer wsX00 := goodIn_r _ [564, 565, 566, 567, 568] (by decide +kernel) (by decide +kernel)
set_option maxRecDepth 20000 in
theorem bg_ggL_packer_L_step_wsX60 : GoodIn wsL_packer wsX60 := goodIn_r _ [575, 576, 577] (by decide +kernel) (by decide +kernel)
set_option maxRecDepth 20000 in
theorem bg_ggL_packer_L_step_wsX20 : GoodIn wsL_packer wsX20 := goodIn_r _ [569] (by decide +kernel) (by decide +kernel)
set_option maxRecDepth 20000 in
theorem bg_ggL_packer_L_step_wsX10 : GoodIn wsL_packer wsX10 := goodIn_r _ [570, 571, 572, 573, 574] (by decide +kernel) (by decide +kernel)
