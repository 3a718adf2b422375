set_option maxRecDepth 20000 in
theorem bg_ggL_packer_L_isReceived_c : GoodIn wsL_packer [Cond.code yL_isReceived cL_isReceived 14 (some .boolean)] := goodIn_r _ [454] (by decide +kernel) (by decide +kernel)
set_option maxRecDepth 20000 in
theorem bg_ggL_packer_L_isReceived_wsL_isReceived_r1 : GoodIn wsL_packer wsL_isReceived_r1 := goodIn_r _ [455, 456, 457, 78, 458, 459, 435, 436, 437, 3, 438, 142, 143, 144, 145, 146, 147, 16, 148, 149, 150, 15, 151, 112] (by decide +kernel) (by decide +kernel)
set_option maxRecDepth 20000 in
theorem bg_ggL_packer_L_isReceived_wsL_isReceived_r2 : GoodIn wsL_packer wsL_isReceived_r2 := goodIn_r _ [41, 439, 440, 441, 442, 443, 444, 445, 446, 447, 460, 461, 462, 463, 32, 464, 465, 466, 467, 468, 469, 470, 471, 101] (by decide +kernel) (by decide +kernel)
set_option maxRecDepth 20000 in
theorem bg_ggL_packer_L_isReceived_wsL_isReceived_r3 : GoodIn wsL_packer wsL_isReceived_r3 := goodIn_r _ [102, 36, 387, 388, 389, 472, 473, 474, 35, 475, 63, 476, 477, 478, 71, 479, 350, 480, 481, 482, 483, 484, 485, 486] (by decide +kernel) (by decide +kernel)
set_option maxRecDepth 20000 in
theorem bg_ggL_packer_L_isReceived_wsL_isReceived_r4 : GoodIn wsL_packer wsL_isReceived_r4 := goodIn_r _ [487, 408, 409, 410, 411, 488, 489, 490, 491, 65, 492, 493, 494, 495, 496, 260, 497, 498, 499, 500, 72, 501, 502, 503] (by decide +kernel) (by decide +kernel)
set_option maxRecDepth 20000 in
theorem bg_ggL_packer_L_isReceived_wsL_isReceived_r5 : GoodIn wsL_packer wsL_isReceived_r5 := goodIn_r _ [504, 505, 506, 507, 508, 509, 347, 348, 349, 351, 352, 510, 511, 512, 513, 250, 251, 252, 253, 415, 416, 417, 418, 419] (by decide +kernel) (by decide +kernel)
set_option maxRecDepth 20000 in
theorem bg_ggL_packer_L_isReceived_wsL_isReceived_r6 : GoodIn wsL_packer wsL_isReceived_r6 := goodIn_r _ [420, 421, 422, 86, 87, 88, 89, 138, 139, 140, 141, 514, 515, 516, 517, 448, 449, 450, 451, 173, 174, 175, 176, 177] (by decide +kernel) (by decide +kernel)
set_option maxRecDepth 20000 in
theorem bg_ggL_packer_L_isReceived_wsL_isReceived_r7 : GoodIn wsL_packer wsL_isReceived_r7 := goodIn_r _ [178] (by decide +kernel) (by decide +kernel)
set_option maxRecDepth 20000 in
theorem bg_ggL_packer_L_isReceived_wsX60 : GoodIn wsL_packer wsX60 := goodIn_r _ [575, 576, 577] (by decide +kernel) (by decide +kernel)
set_option maxRecDepth 20000 in
theorem bg_ggL_packer_L_isReceived_wsX90 : GoodIn wsL_packer wsX90 := goodIn_r _ [543, 544, 545, 546, 547, 548] (by decide +kernel) (by decide +kernel)
set_option maxRecDepth 20000 in
theorem bg_ggL_packer_L_isReceived_wsX50 : GoodIn wsL_packer wsX50 := goodIn_r _ [549, 550, 551] (by decide +kernel) (by decide +kernel)
set_option maxRecDepth 20000 in
theorem bg_ggL_packer_L_isReceived_wsX40 : GoodIn wsL_packer wsX40 := goodIn_r _ [578, 579, 580, 581, 582, 583, 584, 585, 586, 587] (by decide +kernel) (by decide +kernel)
set_option maxRecDepth 20000 in
theorem bg_ggL_packer_L_isReceived_wsX00 : GoodIn wsL_packer wsX00 := goodIn_r _ [564, 565, 566, 567, 568] (by decide +kernel) (by decide +kernel)
set_option maxRecDepth 20000 in
theorem bg_ggL_packer_L_isReceived_wsX20 : GoodIn wsL_packer wsX20 := goodIn_r _ [569] (by decide +kernel) (by decide +kernel)
