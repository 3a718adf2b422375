set_option maxRecDepth 20000 in
theorem bg_ggL_packer_L_isWhole_c : GoodIn wsL_packer [Cond.code yL_isWhole cL_isWhole 8 (some .boolean)] := goodIn_r _ [414] (by decide +kernel) (by decide +kernel)
set_option maxRecDepth 20000 in
theorem bg_ggL_packer_L_isWhole_wsL_isWhole_r1 : GoodIn wsL_packer wsL_isWhole_r1 := goodIn_r _ [415, 416, 417, 3, 418, 32, 419, 420, 421, 422, 250, 251, 252, 253, 423, 424, 425, 426, 28, 427, 428, 429, 430, 101] (by decide +kernel) (by decide +kernel)
set_option maxRecDepth 20000 in
theorem bg_ggL_packer_L_isWhole_wsL_isWhole_r2 : GoodIn wsL_packer wsL_isWhole_r2 := goodIn_r _ [102, 431, 432, 433, 27, 434, 54, 86, 87, 88, 89, 16, 138, 139, 140, 141, 142, 143, 144, 145, 146, 147, 148, 149] (by decide +kernel) (by decide +kernel)
set_option maxRecDepth 20000 in
theorem bg_ggL_packer_L_isWhole_wsL_isWhole_r3 : GoodIn wsL_packer wsL_isWhole_r3 := goodIn_r _ [150, 15, 151, 112, 41, 435, 436, 437, 438, 439, 440, 441, 442, 443, 444, 445, 446, 447, 448, 449, 450, 451] (by decide +kernel) (by decide +kernel)
set_option maxRecDepth 20000 in
theorem bg_ggL_packer_L_isWhole_wsX90 : GoodIn wsL_packer wsX90 := goodIn_r _ [543, 544, 545, 546, 547, 548] (by decide +kernel) (by decide +kernel)
set_option maxRecDepth 20000 in
theorem bg_ggL_packer_L_isWhole_wsX00 : GoodIn wsL_packer wsX00 := goodIn_r _ [564, 565, 566, 567, 568] (by decide +kernel) (by decide +kernel)
set_option maxRecDepth 20000 in
theorem bg_ggL_packer_L_isWhole_wsX80 : GoodIn wsL_packer wsX80 := goodIn_r _ [557, 558, 559, 560, 561, 562, 563] (by decide +kernel) (by decide +kernel)
set_option maxRecDepth 20000 in
theorem bg_ggL_packer_L_isWhole_wsX50 : GoodIn wsL_packer wsX50 := goodIn_r _ [549, 550, 551] (by decide +kernel) (by decide +kernel)
set_option maxRecDepth 20000 in
theorem bg_ggL_packer_L_isWhole_wsX40 : GoodIn wsL_packer wsX40 := goodIn_r _ [578, 579, 580, 581, 582, 583, 584, 585, 586, 587] (by decide +kernel) (by decide +kernel)
set_option maxRecDepth 20000 in
theorem bg_ggL_packer_L_isWhole_wsX60 : GoodIn wsL_packer wsX60 := goodIn_r _ [575, 576, 577] (by decide +kernel) (by decide +kernel)
