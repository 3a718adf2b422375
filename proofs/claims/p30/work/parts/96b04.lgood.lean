set_option maxRecDepth 20000 in
theorem bg_ggL_packer_X9_receive_c : GoodIn wsL_packer [Cond.code yX9_receive cX9_receive 5 (some .int)] := goodIn_r _ [257] (by decide +kernel) (by decide +kernel)
set_option maxRecDepth 20000 in
theorem bg_ggL_packer_X9_receive_wsX9_receive_r1 : GoodIn wsL_packer wsX9_receive_r1 := goodIn_r _ [101, 102, 32, 20, 258, 259, 260, 261, 28, 16, 237, 238, 239, 19, 240, 236, 241, 262, 263, 264, 265, 46, 266, 267] (by decide +kernel) (by decide +kernel)
set_option maxRecDepth 20000 in
theorem bg_ggL_packer_X9_receive_wsX9_receive_r2 : GoodIn wsL_packer wsX9_receive_r2 := goodIn_r _ [268, 269, 270, 271, 272, 273, 27, 274, 275, 276, 54, 53, 277, 278, 279, 280, 281, 282, 283, 284, 285, 286, 287, 288] (by decide +kernel) (by decide +kernel)
set_option maxRecDepth 20000 in
theorem bg_ggL_packer_X9_receive_wsX9_receive_r3 : GoodIn wsL_packer wsX9_receive_r3 := goodIn_r _ [289, 290, 291, 292, 293, 294, 295, 296, 297, 298, 299, 300, 301, 302, 303, 304, 305, 306, 307, 308, 309, 310, 311, 312] (by decide +kernel) (by decide +kernel)
set_option maxRecDepth 20000 in
theorem bg_ggL_packer_X9_receive_wsX9_receive_r4 : GoodIn wsL_packer wsX9_receive_r4 := goodIn_r _ [313, 31, 314, 315, 316, 317, 318, 319, 320, 321, 322, 323, 324, 149, 150, 15, 151, 112, 41, 325, 212, 213, 114, 214] (by decide +kernel) (by decide +kernel)
set_option maxRecDepth 20000 in
theorem bg_ggL_packer_X9_receive_wsX9_receive_r5 : GoodIn wsL_packer wsX9_receive_r5 := goodIn_r _ [132, 134, 326, 327, 328, 329, 330, 331, 216, 217, 218, 133, 332, 333, 334, 335, 336, 337, 338, 339, 130, 137, 340, 341] (by decide +kernel) (by decide +kernel)
set_option maxRecDepth 20000 in
theorem bg_ggL_packer_X9_receive_wsX9_receive_r6 : GoodIn wsL_packer wsX9_receive_r6 := goodIn_r _ [228, 229, 230, 231, 220, 221, 222, 135, 342, 343, 344, 345, 131, 187, 188, 189, 190, 346, 347, 348, 71, 349, 350, 351] (by decide +kernel) (by decide +kernel)
set_option maxRecDepth 20000 in
theorem bg_ggL_packer_X9_receive_wsX9_receive_r7 : GoodIn wsL_packer wsX9_receive_r7 := goodIn_r _ [352] (by decide +kernel) (by decide +kernel)
set_option maxRecDepth 20000 in
theorem bg_ggL_packer_X9_receive_wsX90 : GoodIn wsL_packer wsX90 := goodIn_r _ [543, 544, 545, 546, 547, 548] (by decide +kernel) (by decide +kernel)
set_option maxRecDepth 20000 in
theorem bg_ggL_packer_X9_receive_wsX00 : GoodIn wsL_packer wsX00 := goodIn_r _ [564, 565, 566, 567, 568] (by decide +kernel) (by decide +kernel)
set_option maxRecDepth 20000 in
theorem bg_ggL_packer_X9_receive_wsX80 : GoodIn wsL_packer wsX80 := goodIn_r _ [557, 558, 559, 560, 561, 562, 563] (by decide +kernel) (by decide +kernel)
set_option maxRecDepth 20000 in
theorem bg_ggL_packer_X9_receive_wsX30 : GoodIn wsL_packer wsX30 := goodIn_r _ [552, 553, 554] (by decide +kernel) (by decide +kernel)
set_option maxRecDepth 20000 in
theorem bg_ggL_packer_X9_receive_wsX50 : GoodIn wsL_packer wsX50 := goodIn_r _ [549, 550, 551] (by decide +kernel) (by decide +kernel)
set_option maxRecDepth 20000 in
theorem bg_ggL_packer_X9_receive_wsX40 : GoodIn wsL_packer wsX40 := goodIn_r _ [578, 579, 580, 581, 582, 583, 584, 585, 586, 587] (by decide +kernel) (by decide +kernel)
