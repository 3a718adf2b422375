set_option maxRecDepth 20000 in
theorem bg_ggL_packer_L_points_c : GoodIn wsL_packer [Cond.code yL_points cL_points 16 (some .boolean)] := goodIn_r _ [85] (by decide +kernel) (by decide +kernel)
set_option maxRecDepth 20000 in
theorem bg_ggL_packer_L_points_wsL_points_r1 : GoodIn wsL_packer wsL_points_r1 := goodIn_r _ [86, 87, 88, 3, 89, 16, 90, 91, 78, 92, 93, 94, 95, 96, 97, 98, 99, 100, 101, 102, 103, 104, 24, 105] (by decide +kernel) (by decide +kernel)
set_option maxRecDepth 20000 in
theorem bg_ggL_packer_L_points_wsL_points_r2 : GoodIn wsL_packer wsL_points_r2 := goodIn_r _ [106, 107, 108, 109, 110, 15, 111, 112, 41, 40, 113, 114, 115, 116, 117, 118, 119, 120, 121, 42, 122, 123, 124, 125] (by decide +kernel) (by decide +kernel)
set_option maxRecDepth 20000 in
theorem bg_ggL_packer_L_points_wsL_points_r3 : GoodIn wsL_packer wsL_points_r3 := goodIn_r _ [126, 127, 128, 129, 11, 12, 130, 131, 132, 133, 134, 135, 136, 70, 71, 137, 73, 74, 75, 138, 139, 140, 141, 142] (by decide +kernel) (by decide +kernel)
set_option maxRecDepth 20000 in
theorem bg_ggL_packer_L_points_wsL_points_r4 : GoodIn wsL_packer wsL_points_r4 := goodIn_r _ [143, 144, 145, 146, 147, 148, 149, 150, 151] (by decide +kernel) (by decide +kernel)
set_option maxRecDepth 20000 in
theorem bg_ggL_packer_L_points_wsX90 : GoodIn wsL_packer wsX90 := goodIn_r _ [543, 544, 545, 546, 547, 548] (by decide +kernel) (by decide +kernel)
set_option maxRecDepth 20000 in
theorem bg_ggL_packer_L_points_wsX50 : GoodIn wsL_packer wsX50 := goodIn_r _ [549, 550, 551] (by decide +kernel) (by decide +kernel)
set_option maxRecDepth 20000 in
theorem bg_ggL_packer_L_points_wsX70 : GoodIn wsL_packer wsX70 := goodIn_r _ [555, 556] (by decide +kernel) (by decide +kernel)
set_option maxRecDepth 20000 in
theorem bg_ggL_packer_L_points_wsX40 : GoodIn wsL_packer wsX40 := goodIn_r _ [578, 579, 580, 581, 582, 583, 584, 585, 586, 587] (by decide +kernel) (by decide +kernel)
set_option maxRecDepth 20000 in
theorem bg_ggL_packer_L_points_wsX60 : GoodIn wsL_packer wsX60 := goodIn_r _ [575, 576, 577] (by decide +kernel) (by decide +kernel)
