set_option maxRecDepth 20000 in
theorem bg_ggL_packer_X9_send_c : GoodIn wsL_packer [Cond.code yX9_send cX9_send 3 (some .int)] := goodIn_r _ [198] (by decide +kernel) (by decide +kernel)
set_option maxRecDepth 20000 in
theorem bg_ggL_packer_X9_send_wsX9_send_r1 : GoodIn wsL_packer wsX9_send_r1 := goodIn_r _ [101, 102, 103, 104, 24, 16, 20, 199, 200, 201, 23, 202, 203, 204, 205, 206, 207, 208, 209, 210, 149, 150, 15, 151] (by decide +kernel) (by decide +kernel)
set_option maxRecDepth 20000 in
theorem bg_ggL_packer_X9_send_wsX9_send_r2 : GoodIn wsL_packer wsX9_send_r2 := goodIn_r _ [112, 41, 211, 212, 213, 114, 214, 132, 134, 215, 216, 217, 218, 133, 219, 220, 221, 222, 135, 223, 224, 225, 226, 131] (by decide +kernel) (by decide +kernel)
set_option maxRecDepth 20000 in
theorem bg_ggL_packer_X9_send_wsX9_send_r3 : GoodIn wsL_packer wsX9_send_r3 := goodIn_r _ [130, 187, 188, 189, 190, 227, 228, 229, 230, 231, 232, 233, 234, 19, 235, 236, 46, 237, 238, 239, 240, 241] (by decide +kernel) (by decide +kernel)
set_option maxRecDepth 20000 in
theorem bg_ggL_packer_X9_send_wsX90 : GoodIn wsL_packer wsX90 := goodIn_r _ [543, 544, 545, 546, 547, 548] (by decide +kernel) (by decide +kernel)
set_option maxRecDepth 20000 in
theorem bg_ggL_packer_X9_send_wsX70 : GoodIn wsL_packer wsX70 := goodIn_r _ [555, 556] (by decide +kernel) (by decide +kernel)
set_option maxRecDepth 20000 in
theorem bg_ggL_packer_X9_send_wsX50 : GoodIn wsL_packer wsX50 := goodIn_r _ [549, 550, 551] (by decide +kernel) (by decide +kernel)
set_option maxRecDepth 20000 in
theorem bg_ggL_packer_X9_send_wsX40 : GoodIn wsL_packer wsX40 := goodIn_r _ [578, 579, 580, 581, 582, 583, 584, 585, 586, 587] (by decide +kernel) (by decide +kernel)
set_option maxRecDepth 20000 in
theorem bg_ggL_packer_X9_send_wsX30 : GoodIn wsL_packer wsX30 := goodIn_r _ [552, 553, 554] (by decide +kernel) (by decide +kernel)
