set_option maxRecDepth 20000 in
theorem bg_ggL_packer_L_areBits_c : GoodIn wsL_packer [Cond.code yL_areBits cL_areBits 8 (some .boolean)] := goodIn_r _ [520] (by decide +kernel) (by decide +kernel)
set_option maxRecDepth 20000 in
theorem bg_ggL_packer_L_areBits_wsL_areBits_r1 : GoodIn wsL_packer wsL_areBits_r1 := goodIn_r _ [521, 522, 523, 3, 524, 24, 246, 247, 248, 249, 20, 237, 238, 239, 19, 240, 236, 241, 242, 243, 244, 245, 28, 423] (by decide +kernel) (by decide +kernel)
set_option maxRecDepth 20000 in
theorem bg_ggL_packer_L_areBits_wsL_areBits_r2 : GoodIn wsL_packer wsL_areBits_r2 := goodIn_r _ [424, 425, 426, 427, 428, 429, 430, 101, 102, 431, 432, 433, 27, 434, 54, 525, 526, 527, 528, 529, 530, 531, 532, 146] (by decide +kernel) (by decide +kernel)
set_option maxRecDepth 20000 in
theorem bg_ggL_packer_L_areBits_wsL_areBits_r3 : GoodIn wsL_packer wsL_areBits_r3 := goodIn_r _ [147, 357, 267, 268, 269, 270, 533, 534, 535, 536, 46, 266, 353, 354, 355, 356, 358, 359, 360, 361] (by decide +kernel) (by decide +kernel)
set_option maxRecDepth 20000 in
theorem bg_ggL_packer_L_areBits_wsX90 : GoodIn wsL_packer wsX90 := goodIn_r _ [543, 544, 545, 546, 547, 548] (by decide +kernel) (by decide +kernel)
set_option maxRecDepth 20000 in
theorem bg_ggL_packer_L_areBits_wsX70 : GoodIn wsL_packer wsX70 := goodIn_r _ [555, 556] (by decide +kernel) (by decide +kernel)
set_option maxRecDepth 20000 in
theorem bg_ggL_packer_L_areBits_wsX30 : GoodIn wsL_packer wsX30 := goodIn_r _ [552, 553, 554] (by decide +kernel) (by decide +kernel)
set_option maxRecDepth 20000 in
theorem bg_ggL_packer_L_areBits_wsX80 : GoodIn wsL_packer wsX80 := goodIn_r _ [557, 558, 559, 560, 561, 562, 563] (by decide +kernel) (by decide +kernel)
