set_option maxRecDepth 20000 in
theorem bg_ggL_packer_L_areDerived_c : GoodIn wsL_packer [Cond.code yL_areDerived cL_areDerived 15 (some .boolean)] := goodIn_r _ [539] (by decide +kernel) (by decide +kernel)
set_option maxRecDepth 20000 in
theorem bg_ggL_packer_L_areDerived_wsL_areDerived_r1 : GoodIn wsL_packer wsL_areDerived_r1 := goodIn_r _ [540, 455, 541, 542, 456, 457, 78, 458, 459, 435, 436, 437, 3, 438, 142, 143, 144, 145, 146, 147, 16, 148, 149, 150] (by decide +kernel) (by decide +kernel)
set_option maxRecDepth 20000 in
theorem bg_ggL_packer_L_areDerived_wsL_areDerived_r2 : GoodIn wsL_packer wsL_areDerived_r2 := goodIn_r _ [15, 151, 112, 41, 439, 440, 441, 442, 443, 444, 445, 446, 447, 460, 461, 462, 463, 32, 464, 465, 466, 467, 468, 469] (by decide +kernel) (by decide +kernel)
set_option maxRecDepth 20000 in
theorem bg_ggL_packer_L_areDerived_wsL_areDerived_r3 : GoodIn wsL_packer wsL_areDerived_r3 := goodIn_r _ [470, 471, 101, 102, 36, 387, 388, 389, 472, 473, 474, 35, 475, 63, 476, 477, 478, 71, 479, 350, 480, 481, 482, 483] (by decide +kernel) (by decide +kernel)
set_option maxRecDepth 20000 in
theorem bg_ggL_packer_L_areDerived_wsL_areDerived_r4 : GoodIn wsL_packer wsL_areDerived_r4 := goodIn_r _ [484, 485, 486, 487, 408, 409, 410, 411, 488, 489, 490, 491, 65, 492, 493, 494, 495, 496, 260, 497, 498, 499, 500, 72] (by decide +kernel) (by decide +kernel)
set_option maxRecDepth 20000 in
theorem bg_ggL_packer_L_areDerived_wsL_areDerived_r5 : GoodIn wsL_packer wsL_areDerived_r5 := goodIn_r _ [501, 502, 503, 504, 505, 506, 507, 508, 509, 347, 348, 349, 351, 352, 510, 511, 512, 513, 86, 87, 88, 89] (by decide +kernel) (by decide +kernel)
set_option maxRecDepth 20000 in
theorem bg_ggL_packer_L_areDerived_wsX60 : GoodIn wsL_packer wsX60 := goodIn_r _ [575, 576, 577] (by decide +kernel) (by decide +kernel)
set_option maxRecDepth 20000 in
theorem bg_ggL_packer_L_areDerived_wsX90 : GoodIn wsL_packer wsX90 := goodIn_r _ [543, 544, 545, 546, 547, 548] (by decide +kernel) (by decide +kernel)
set_option maxRecDepth 20000 in
theorem bg_ggL_packer_L_areDerived_wsX50 : GoodIn wsL_packer wsX50 := goodIn_r _ [549, 550, 551] (by decide +kernel) (by decide +kernel)
set_option maxRecDepth 20000 in
theorem bg_ggL_packer_L_areDerived_wsX40 : GoodIn wsL_packer wsX40 := goodIn_r _ [578, 579, 580, 581, 582, 583, 584, 585, 586, 587] (by decide +kernel) (by decide +kernel)
set_option maxRecDepth 20000 in
theorem bg_ggL_packer_L_areDerived_wsX00 : GoodIn wsL_packer wsX00 := goodIn_r _ [564, 565, 566, 567, 568] (by decide +kernel) (by decide +kernel)
set_option maxRecDepth 20000 in
theorem bg_ggL_packer_L_areDerived_wsX20 : GoodIn wsL_packer wsX20 := goodIn_r _ [569] (by decide +kernel) (by decide +kernel)
set_option maxRecDepth 20000 in
theorem bg_ggL_packer_L_areDerived_wsX10 : GoodIn wsL_packer wsX10 := goodIn_r _ [570, 571, 572, 573, 574] (by decide +kernel) (by decide +kernel)
