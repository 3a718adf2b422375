set_option maxRecDepth 20000 in
theorem ggL_step_X9_taken : GoodIn wsL_step wsX9_taken := goodIn_r _ [109, 110, 288, 289, 290, 291, 292, 293, 312, 313, 314, 315, 316, 317, 318] (by decide +kernel) (by decide +kernel)
set_option maxRecDepth 20000 in
theorem gL_step_X9_taken : GoodIn wsL_step (wsV RL 89 RX9 yX9_taken wsX9_taken) := goodIn_app (goodIn_of _ (by decide +kernel)) ggL_step_X9_taken
set_option maxRecDepth 20000 in
theorem ggL_step_X9_onLine : GoodIn wsL_step wsX9_onLine := goodIn_r _ [114, 55, 101, 102, 103, 97, 104, 99, 105, 288, 289, 290, 291, 292, 293, 309, 310, 311] (by decide +kernel) (by decide +kernel)
set_option maxRecDepth 20000 in
theorem gL_step_X9_onLine : GoodIn wsL_step (wsV RL 86 RX9 yX9_onLine wsX9_onLine) := goodIn_app (goodIn_of _ (by decide +kernel)) ggL_step_X9_onLine
set_option maxRecDepth 20000 in
theorem ggL_step_X9_frames : GoodIn wsL_step wsX9_frames := goodIn_r _ [118, 119, 288, 289, 290, 291, 292, 293, 319, 320, 321, 322, 323] (by decide +kernel) (by decide +kernel)
set_option maxRecDepth 20000 in
theorem gL_step_X9_frames : GoodIn wsL_step (wsV RL 61 RX9 yX9_frames wsX9_frames) := goodIn_app (goodIn_of _ (by decide +kernel)) ggL_step_X9_frames
set_option maxRecDepth 20000 in
theorem ggL_step_X9_receive : GoodIn wsL_step wsX9_receive := goodIn_ca (goodIn_r _ [123, 18, 19, 119, 55, 124, 125, 126, 127, 110, 6, 101, 102, 103, 97, 104, 99, 105, 128, 129, 130, 131, 100, 132, 133, 134, 135, 136, 137, 138, 139, 140, 141, 142, 143, 144, 145, 146, 147, 148, 149, 150, 151, 152, 153, 154, 155, 156, 157, 158, 159, 160, 161, 162, 163, 164, 165, 166, 167, 168, 169, 170, 171, 172, 173, 174, 175, 176, 177, 178, 179, 180, 181, 182, 183, 184, 185, 186, 187, 188, 189, 190, 191, 192, 193, 194, 27, 28, 29, 30, 31, 32, 195, 70, 71, 36, 72, 73, 74, 196, 197, 198, 199, 200, 201, 76, 77, 78, 79, 202, 203, 204, 205, 206, 207, 208, 209, 43, 210, 211, 212, 90, 91, 92, 93, 81, 82, 83, 84, 213, 214, 215, 216, 38, 39, 40, 41, 42, 217, 218, 219, 220, 221, 222, 223, 224, 288, 289, 290, 291, 292, 293, 319, 320, 321, 322, 323, 312, 313, 314, 315, 316, 317, 318, 309, 310, 311, 294, 295, 296, 297, 298, 299, 300, 301, 302, 303, 304, 305, 306, 324, 325, 326] (by decide +kernel) (by decide +kernel)) (goodIn_sub (fun _ h => List.mem_cons_of_mem _ (List.mem_append_left _ (List.mem_append_left _ (List.mem_append_right _ h)))) (by decide +kernel))
set_option maxRecDepth 20000 in
theorem gL_step_X9_receive : GoodIn wsL_step (wsV RL 128 RX9 yX9_receive wsX9_receive) := goodIn_app (goodIn_of _ (by decide +kernel)) ggL_step_X9_receive
set_option maxRecDepth 20000 in
theorem ggL_step_X9_flip : GoodIn wsL_step wsX9_flip := goodIn_ca (goodIn_r _ [228, 24, 25, 55, 229, 133, 134, 97, 135, 136, 102, 103, 104, 99, 105, 230, 231, 232, 233, 100, 132, 288, 289, 290, 291, 292, 293, 309, 310, 311] (by decide +kernel) (by decide +kernel)) (goodIn_sub (fun _ h => List.mem_cons_of_mem _ (List.mem_append_left _ (List.mem_append_right _ h))) (by decide +kernel))
set_option maxRecDepth 20000 in
theorem gL_step_X9_flip : GoodIn wsL_step (wsV RL 104 RX9 yX9_flip wsX9_flip) := goodIn_app (goodIn_of _ (by decide +kernel)) ggL_step_X9_flip
set_option maxRecDepth 20000 in
theorem ggL_step_X9_cut : GoodIn wsL_step wsX9_cut := goodIn_ca (goodIn_ca (goodIn_r _ [237, 18, 19, 24, 25, 55, 229, 133, 134, 97, 135, 136, 102, 103, 104, 99, 105, 238, 239, 240, 241, 100, 242, 243, 244, 245, 132, 101, 288, 289, 290, 291, 292, 293, 309, 310, 311] (by decide +kernel) (by decide +kernel)) (goodIn_sub (fun _ h => List.mem_cons_of_mem _ (List.mem_append_left _ (List.mem_append_left _ (List.mem_append_right _ h)))) (by decide +kernel))) (goodIn_sub (fun _ h => List.mem_cons_of_mem _ (List.mem_append_left _ (List.mem_append_right _ h))) (by decide +kernel))
set_option maxRecDepth 20000 in
theorem gL_step_X9_cut : GoodIn wsL_step (wsV RL 131 RX9 yX9_cut wsX9_cut) := goodIn_app (goodIn_of _ (by decide +kernel)) ggL_step_X9_cut
set_option maxRecDepth 20000 in
theorem ggL_step_L_derives : GoodIn wsL_step wsL_derives := goodIn_ca (goodIn_ca (goodIn_r _ [248, 249, 250, 9, 251, 252, 253, 254, 255, 256, 257, 258, 4, 259, 18, 19, 52, 53, 260, 261, 262, 263, 264, 265, 266, 267, 268, 269, 270, 271, 272, 273, 274, 275, 276, 277, 278, 279, 280, 281, 282, 283, 284, 285, 286, 287, 288, 289, 290, 291, 292, 293, 327, 328, 329, 330, 331, 332] (by decide +kernel) (by decide +kernel)) (goodIn_sub (fun _ h => List.mem_cons_of_mem _ (List.mem_append_left _ (List.mem_append_left _ (List.mem_append_right _ h)))) (by decide +kernel))) (goodIn_sub (fun _ h => List.mem_cons_of_mem _ (List.mem_append_right _ h)) (by decide +kernel))
set_option maxRecDepth 20000 in
theorem gL_step_L_derives : GoodIn wsL_step (va_wsS RL 134 yL_derives wsL_derives) := goodIn_app (goodIn_of _ (by decide +kernel)) ggL_step_L_derives
set_option maxRecDepth 20000 in
theorem ggL_packer_X9_init : GoodIn wsL_packer wsX9_init := goodIn_r _ [9, 10, 11, 12, 13, 14, 15, 16, 17, 18, 19, 20, 21, 22, 23, 24, 25, 26, 27, 28, 29, 30, 31, 32, 33, 34, 35, 36, 37, 38, 39, 40, 41, 5, 42, 43, 44, 45, 4, 46, 47, 48, 49, 50, 51, 52, 53, 54, 55, 56, 57, 58, 59, 60, 61, 62, 63, 64, 65, 66, 67, 68, 69, 70, 71, 72, 73, 74, 75, 549, 550, 551, 543, 544, 545, 546, 547, 548, 552, 553, 554, 555, 556, 557, 558, 559, 560, 561, 562, 563, 564, 565, 566, 567, 568, 569, 570, 571, 572, 573, 574, 575, 576, 577] (by decide +kernel) (by decide +kernel)
set_option maxRecDepth 20000 in
theorem gL_packer_X9_init : GoodIn wsL_packer (wsX9_init) := ggL_packer_X9_init
