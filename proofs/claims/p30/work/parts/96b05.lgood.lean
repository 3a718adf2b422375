set_option maxRecDepth 20000 in
theorem bg_ggL_packer_X9_receive_wsX60 : GoodIn wsL_packer wsX60 := goodIn_r _ [575, 576, 577] (by decide +kernel) (by decide +kernel)
