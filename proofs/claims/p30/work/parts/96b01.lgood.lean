set_option maxRecDepth 20000 in
theorem bg_ggL_packer_L_step_c : GoodIn wsL_packer [Cond.code yL_step cL_step 12 (some .boolean)] := goodIn_r _ [172] (by decide +kernel) (by decide +kernel)
set_option maxRecDepth 20000 in
theorem bg_ggL_packer_L_step_wsL_step_r1 : GoodIn wsL_packer wsL_step_r1 := goodIn_r _ [86, 87, 88, 3, 89, 16, 173, 174, 78, 175, 176, 177, 178, 179, 180, 181, 182, 101, 102, 142, 143, 144, 145, 146] (by decide +kernel) (by decide +kernel)
set_option maxRecDepth 20000 in
theorem bg_ggL_packer_L_step_wsL_step_r2 : GoodIn wsL_packer wsL_step_r2 := goodIn_r _ [147, 148, 149, 150, 15, 151, 112, 41, 183, 184, 185, 114, 186, 131, 187, 188, 189, 190, 130, 191, 192, 193, 194, 195] (by decide +kernel) (by decide +kernel)
set_option maxRecDepth 20000 in
theorem bg_ggL_packer_L_step_wsL_step_r3 : GoodIn wsL_packer wsL_step_r3 := goodIn_r _ [196, 197, 198, 103, 104, 24, 20, 199, 200, 201, 23, 202, 203, 204, 205, 206, 207, 208, 209, 210, 211, 212, 213, 214] (by decide +kernel) (by decide +kernel)
set_option maxRecDepth 20000 in
theorem bg_ggL_packer_L_step_wsL_step_r4 : GoodIn wsL_packer wsL_step_r4 := goodIn_r _ [132, 134, 215, 216, 217, 218, 133, 219, 220, 221, 222, 135, 223, 224, 225, 226, 227, 228, 229, 230, 231, 232, 233, 234] (by decide +kernel) (by decide +kernel)
set_option maxRecDepth 20000 in
theorem bg_ggL_packer_L_step_wsL_step_r5 : GoodIn wsL_packer wsL_step_r5 := goodIn_r _ [19, 235, 236, 46, 237, 238, 239, 240, 241, 242, 243, 244, 245, 28, 246, 247, 248, 249, 250, 251, 252, 253, 32, 254] (by decide +kernel) (by decide +kernel)
set_option maxRecDepth 20000 in
theorem bg_ggL_packer_L_step_wsL_step_r6 : GoodIn wsL_packer wsL_step_r6 := goodIn_r _ [255, 256, 257, 258, 259, 260, 261, 262, 263, 264, 265, 266, 267, 268, 269, 270, 271, 272, 273, 27, 274, 275, 276, 54] (by decide +kernel) (by decide +kernel)
set_option maxRecDepth 20000 in
theorem bg_ggL_packer_L_step_wsL_step_r7 : GoodIn wsL_packer wsL_step_r7 := goodIn_r _ [53, 277, 278, 279, 280, 281, 282, 283, 284, 285, 286, 287, 288, 289, 290, 291, 292, 293, 294, 295, 296, 297, 298, 299] (by decide +kernel) (by decide +kernel)
set_option maxRecDepth 20000 in
theorem bg_ggL_packer_L_step_wsL_step_r8 : GoodIn wsL_packer wsL_step_r8 := goodIn_r _ [300, 301, 302, 303, 304, 305, 306, 307, 308, 309, 310, 311, 312, 313, 31, 314, 315, 316, 317, 318, 319, 320, 321, 322] (by decide +kernel) (by decide +kernel)
set_option maxRecDepth 20000 in
theorem bg_ggL_packer_L_step_wsL_step_r9 : GoodIn wsL_packer wsL_step_r9 := goodIn_r _ [323, 324, 325, 326, 327, 328, 329, 330, 331, 332, 333, 334, 335, 336, 337, 338, 339, 137, 340, 341, 342, 343, 344, 345] (by decide +kernel) (by decide +kernel)
set_option maxRecDepth 20000 in
theorem bg_ggL_packer_L_step_wsL_step_r10 : GoodIn wsL_packer wsL_step_r10 := goodIn_r _ [346, 347, 348, 71, 349, 350, 351, 352, 353, 354, 355, 356, 357, 358, 359, 360, 361, 362, 363, 364, 365, 366, 367, 368] (by decide +kernel) (by decide +kernel)
set_option maxRecDepth 20000 in
theorem bg_ggL_packer_L_step_wsL_step_r11 : GoodIn wsL_packer wsL_step_r11 := goodIn_r _ [369, 370, 371, 372, 373, 374, 375, 376, 377, 378, 379, 380, 381, 382, 96, 383, 384, 385, 386, 36, 387, 388, 389, 390] (by decide +kernel) (by decide +kernel)
set_option maxRecDepth 20000 in
theorem bg_ggL_packer_L_step_wsL_step_r12 : GoodIn wsL_packer wsL_step_r12 := goodIn_r _ [391, 392, 393, 394, 395, 35, 396, 63, 397, 398, 399, 400, 401, 402, 403, 404, 405, 406, 407, 408, 409, 410, 411] (by decide +kernel) (by decide +kernel)
set_option maxRecDepth 20000 in
theorem bg_ggL_packer_L_step_wsX90 : GoodIn wsL_packer wsX90 := goodIn_r _ [543, 544, 545, 546, 547, 548] (by decide +kernel) (by decide +kernel)
