set_option maxRecDepth 20000 in
theorem bg_ggL_packer_L_isReceived_wsX10 : GoodIn wsL_packer wsX10 := goodIn_r _ [570, 571, 572, 573, 574] (by decide +kernel) (by decide +kernel)
