set_option maxRecDepth 20000 in
theorem ggL_law_X9_init : GoodIn wsL_law wsX9_init := goodIn_r _ [9, 10, 11, 12, 13, 14, 15, 16, 17, 18, 19, 20, 21, 22, 23, 24, 25, 26, 27, 28, 29, 30, 31, 32, 33, 34, 35, 36, 37, 38, 39, 40, 41, 6, 42, 43, 44, 45, 46, 47, 48, 49, 50, 51, 52, 53, 54, 55, 56, 57, 58, 59, 60, 61, 62, 63, 64, 65, 66, 67, 68, 69, 70, 71, 72, 73, 74, 75, 76, 842, 843, 844, 801, 802, 803, 804, 805, 806, 845, 846, 847, 848, 849, 850, 851, 852, 853, 854, 855, 856, 857, 858, 859, 860, 861, 862, 863, 864, 865, 866, 867, 868, 869, 870] (by decide +kernel) (by decide +kernel)
set_option maxRecDepth 20000 in
theorem gL_law_X9_init : GoodIn wsL_law (wsX9_init) := ggL_law_X9_init
set_option maxRecDepth 20000 in
theorem ggL_law_X10_init : GoodIn wsL_law wsX10_init := goodIn_r _ [79, 80, 11, 12, 46, 81, 82, 83, 84, 85, 86, 87, 88, 89, 90, 91, 92, 93, 94, 95, 96, 97, 98, 99, 100, 101, 102, 103, 807, 808, 809, 810, 811, 812, 813, 814, 815, 816, 817, 818, 819, 820, 821, 822, 823, 824, 825, 826, 827, 828, 829, 830, 831, 832, 833, 834, 835, 836, 837, 838, 839, 840, 841] (by decide +kernel) (by decide +kernel)
set_option maxRecDepth 20000 in
theorem gL_law_X10_init : GoodIn wsL_law (wsX10_init) := ggL_law_X10_init
set_option maxRecDepth 20000 in
theorem ggL_law_L_addPoint : GoodIn wsL_law wsL_addPoint := goodIn_ca (goodIn_ca (goodIn_r _ [107, 108, 109, 110, 111, 112, 2, 113, 114, 115, 116, 117, 24, 16, 118, 119, 120, 121, 122, 123, 15, 124, 125, 41, 40, 126, 127, 128, 129, 130, 131, 132, 133, 134, 42, 135, 136, 137, 138, 139, 140, 141, 142, 11, 12, 143, 144, 145, 146, 147, 148, 149, 71, 72, 150, 74, 75, 76, 801, 802, 803, 804, 805, 806, 848, 849, 842, 843, 844, 871, 872, 873, 874, 875, 876, 877, 878, 879, 880, 868, 869, 870] (by decide +kernel) (by decide +kernel)) (goodIn_sub (fun _ h => List.mem_append_left _ (List.mem_append_left _ (List.mem_append_left _ (List.mem_append_right _ h)))) (by decide +kernel))) (goodIn_sub (fun _ h => List.mem_append_left _ (List.mem_append_left _ (List.mem_append_right _ h))) (by decide +kernel))
set_option maxRecDepth 20000 in
theorem gL_law_L_addPoint : GoodIn wsL_law (va_wsS RL 77 yL_addPoint wsL_addPoint) := goodIn_app (goodIn_of _ (by decide +kernel)) ggL_law_L_addPoint
set_option maxRecDepth 20000 in
theorem ggL_law_X10_addPoint : GoodIn wsL_law wsX10_addPoint := goodIn_r _ [154, 155, 156, 81, 82, 83, 84, 85, 86, 157, 158, 5, 159, 160, 161, 162, 163, 164, 165, 166, 167, 168, 169, 170, 171, 172, 173, 174, 175, 176, 177, 178, 179, 180, 807, 808, 809, 810, 811, 812, 813, 814, 815, 816, 817, 818, 819, 820, 821, 822, 823, 824, 825, 826, 827, 828, 829, 830, 831, 832, 833, 834, 835, 836, 837, 838, 839, 840, 841] (by decide +kernel) (by decide +kernel)
set_option maxRecDepth 20000 in
theorem gL_law_X10_addPoint : GoodIn wsL_law (wsV RL 82 RX10 yX10_addPoint wsX10_addPoint) := goodIn_app (goodIn_of _ (by decide +kernel)) ggL_law_X10_addPoint
set_option maxRecDepth 20000 in
theorem ggL_law_X10_thrown : GoodIn wsL_law wsX10_thrown := goodIn_r _ [184, 180, 807, 808, 809, 810, 811, 812, 813, 814, 815, 816, 817, 818, 819, 820, 821, 822, 823, 824, 825, 826, 827, 828, 829, 830, 831, 832, 833, 834, 835, 836, 837, 838, 839, 840, 841] (by decide +kernel) (by decide +kernel)
set_option maxRecDepth 20000 in
theorem gL_law_X10_thrown : GoodIn wsL_law (wsV RL 83 RX10 yX10_thrown wsX10_thrown) := goodIn_app (goodIn_of _ (by decide +kernel)) ggL_law_X10_thrown
set_option maxRecDepth 20000 in
theorem ggL_law_X9_points : GoodIn wsL_law wsX9_points := goodIn_r _ [188, 16, 801, 802, 803, 804, 805, 806, 842, 843, 844] (by decide +kernel) (by decide +kernel)
set_option maxRecDepth 20000 in
theorem gL_law_X9_points : GoodIn wsL_law (wsV RL 86 RX9 yX9_points wsX9_points) := goodIn_app (goodIn_of _ (by decide +kernel)) ggL_law_X9_points
set_option maxRecDepth 20000 in
theorem ggL_law_X10_points : GoodIn wsL_law wsX10_points := goodIn_r _ [192, 180, 155, 807, 808, 809, 810, 811, 812, 813, 814, 815, 816, 817, 818, 819, 820, 821, 822, 823, 824, 825, 826, 827, 828, 829, 830, 831, 832, 833, 834, 835, 836, 837, 838, 839, 840, 841] (by decide +kernel) (by decide +kernel)
set_option maxRecDepth 20000 in
theorem gL_law_X10_points : GoodIn wsL_law (wsV RL 89 RX10 yX10_points wsX10_points) := goodIn_app (goodIn_of _ (by decide +kernel)) ggL_law_X10_points
set_option maxRecDepth 20000 in
theorem ggL_law_L_place : GoodIn wsL_law wsL_place := goodIn_ca (goodIn_r _ [195, 196, 197, 198, 199, 2, 200, 201, 202, 203, 204, 205, 206, 16, 207, 208, 209, 15, 210, 125, 41, 871, 872, 873, 874, 875, 876, 877, 878, 879, 880, 801, 802, 803, 804, 805, 806, 842, 843, 844] (by decide +kernel) (by decide +kernel)) (goodIn_sub (fun _ h => List.mem_append_left _ (List.mem_append_right _ h)) (by decide +kernel))
set_option maxRecDepth 20000 in
theorem gL_law_L_place : GoodIn wsL_law (va_wsS RL 90 yL_place wsL_place) := goodIn_app (goodIn_of _ (by decide +kernel)) ggL_law_L_place
set_option maxRecDepth 20000 in
theorem ggL_law_X10_place : GoodIn wsL_law wsX10_place := goodIn_r _ [214, 85, 86, 215, 216, 217, 5, 218, 155, 157, 158, 159, 176, 177, 178, 179, 180, 807, 808, 809, 810, 811, 812, 813, 814, 815, 816, 817, 818, 819, 820, 821, 822, 823, 824, 825, 826, 827, 828, 829, 830, 831, 832, 833, 834, 835, 836, 837, 838, 839, 840, 841] (by decide +kernel) (by decide +kernel)
set_option maxRecDepth 20000 in
theorem gL_law_X10_place : GoodIn wsL_law (wsV RL 93 RX10 yX10_place wsX10_place) := goodIn_app (goodIn_of _ (by decide +kernel)) ggL_law_X10_place
set_option maxRecDepth 20000 in
theorem ggL_law_X9_spare : GoodIn wsL_law wsX9_spare := goodIn_r _ [222, 16, 223, 224, 225, 15, 226, 42, 227, 228, 229, 230, 231, 232, 233, 801, 802, 803, 804, 805, 806, 842, 843, 844] (by decide +kernel) (by decide +kernel)
set_option maxRecDepth 20000 in
theorem gL_law_X9_spare : GoodIn wsL_law (wsV RL 94 RX9 yX9_spare wsX9_spare) := goodIn_app (goodIn_of _ (by decide +kernel)) ggL_law_X9_spare
set_option maxRecDepth 20000 in
theorem ggL_law_X10_spare : GoodIn wsL_law wsX10_spare := goodIn_r _ [237, 180, 168, 169, 170, 5, 171, 155, 86, 81, 84, 172, 173, 174, 175, 83, 85, 807, 808, 809, 810, 811, 812, 813, 814, 815, 816, 817, 818, 819, 820, 821, 822, 823, 824, 825, 826, 827, 828, 829, 830, 831, 832, 833, 834, 835, 836, 837, 838, 839, 840, 841] (by decide +kernel) (by decide +kernel)
set_option maxRecDepth 20000 in
theorem gL_law_X10_spare : GoodIn wsL_law (wsV RL 97 RX10 yX10_spare wsX10_spare) := goodIn_app (goodIn_of _ (by decide +kernel)) ggL_law_X10_spare
set_option maxRecDepth 20000 in
theorem ggL_law_L_put : GoodIn wsL_law wsL_put := goodIn_ca (goodIn_ca (goodIn_r _ [240, 196, 108, 241, 242, 243, 2, 244, 114, 115, 201, 202, 203, 204, 205, 206, 16, 207, 208, 209, 15, 210, 125, 41, 245, 246, 247, 127, 248, 144, 249, 250, 251, 252, 143, 253, 254, 255, 256, 871, 872, 873, 874, 875, 876, 877, 878, 879, 880, 801, 802, 803, 804, 805, 806, 842, 843, 844] (by decide +kernel) (by decide +kernel)) (goodIn_sub (fun _ h => List.mem_append_left _ (List.mem_append_left _ (List.mem_append_left _ (List.mem_append_right _ h)))) (by decide +kernel))) (goodIn_sub (fun _ h => List.mem_append_left _ (List.mem_append_right _ h)) (by decide +kernel))
set_option maxRecDepth 20000 in
theorem gL_law_L_put : GoodIn wsL_law (va_wsS RL 98 yL_put wsL_put) := goodIn_app (goodIn_of _ (by decide +kernel)) ggL_law_L_put
set_option maxRecDepth 20000 in
theorem ggL_law_X10_put : GoodIn wsL_law wsX10_put := goodIn_r _ [260, 81, 82, 87, 215, 216, 217, 5, 218, 155, 157, 158, 159, 176, 177, 178, 179, 180, 807, 808, 809, 810, 811, 812, 813, 814, 815, 816, 817, 818, 819, 820, 821, 822, 823, 824, 825, 826, 827, 828, 829, 830, 831, 832, 833, 834, 835, 836, 837, 838, 839, 840, 841] (by decide +kernel) (by decide +kernel)
set_option maxRecDepth 20000 in
theorem gL_law_X10_put : GoodIn wsL_law (wsV RL 101 RX10 yX10_put wsX10_put) := goodIn_app (goodIn_of _ (by decide +kernel)) ggL_law_X10_put
set_option maxRecDepth 20000 in
theorem ggL_law_L_send : GoodIn wsL_law wsL_send := goodIn_ca (goodIn_ca (goodIn_r _ [263, 108, 109, 264, 265, 266, 2, 267, 114, 115, 116, 117, 24, 16, 20, 268, 269, 270, 23, 271, 272, 273, 274, 275, 276, 277, 278, 279, 208, 209, 15, 210, 125, 41, 280, 281, 282, 127, 283, 145, 147, 284, 285, 286, 287, 146, 288, 289, 290, 291, 148, 292, 293, 294, 295, 144, 143, 249, 250, 251, 252, 296, 297, 298, 299, 300, 301, 302, 303, 19, 304, 305, 47, 306, 307, 308, 309, 310, 801, 802, 803, 804, 805, 806, 848, 849, 842, 843, 844, 871, 872, 873, 874, 875, 876, 877, 878, 879, 880, 845, 846, 847] (by decide +kernel) (by decide +kernel)) (goodIn_sub (fun _ h => List.mem_append_left _ (List.mem_append_left _ (List.mem_append_left _ (List.mem_append_right _ h)))) (by decide +kernel))) (goodIn_sub (fun _ h => List.mem_append_left _ (List.mem_append_left _ (List.mem_append_right _ h))) (by decide +kernel))
set_option maxRecDepth 20000 in
theorem gL_law_L_send : GoodIn wsL_law (va_wsS RL 102 yL_send wsL_send) := goodIn_app (goodIn_of _ (by decide +kernel)) ggL_law_L_send
set_option maxRecDepth 20000 in
theorem ggL_law_X10_send : GoodIn wsL_law wsX10_send := goodIn_r _ [314, 156, 315, 157, 158, 5, 159, 176, 177, 178, 179, 180, 316, 317, 318, 319, 155, 84, 86, 88, 87, 81, 89, 172, 173, 174, 175, 83, 85, 320, 321, 322, 323, 82, 168, 169, 170, 171, 807, 808, 809, 810, 811, 812, 813, 814, 815, 816, 817, 818, 819, 820, 821, 822, 823, 824, 825, 826, 827, 828, 829, 830, 831, 832, 833, 834, 835, 836, 837, 838, 839, 840, 841] (by decide +kernel) (by decide +kernel)
set_option maxRecDepth 20000 in
theorem gL_law_X10_send : GoodIn wsL_law (wsV RL 104 RX10 yX10_send wsX10_send) := goodIn_app (goodIn_of _ (by decide +kernel)) ggL_law_X10_send
set_option maxRecDepth 20000 in
theorem ggL_law_X9_sent : GoodIn wsL_law wsX9_sent := goodIn_r _ [327, 24, 801, 802, 803, 804, 805, 806, 848, 849] (by decide +kernel) (by decide +kernel)
set_option maxRecDepth 20000 in
theorem gL_law_X9_sent : GoodIn wsL_law (wsV RL 105 RX9 yX9_sent wsX9_sent) := goodIn_app (goodIn_of _ (by decide +kernel)) ggL_law_X9_sent
set_option maxRecDepth 20000 in
theorem ggL_law_X10_sent : GoodIn wsL_law wsX10_sent := goodIn_r _ [331, 180, 156, 807, 808, 809, 810, 811, 812, 813, 814, 815, 816, 817, 818, 819, 820, 821, 822, 823, 824, 825, 826, 827, 828, 829, 830, 831, 832, 833, 834, 835, 836, 837, 838, 839, 840, 841] (by decide +kernel) (by decide +kernel)
set_option maxRecDepth 20000 in
theorem gL_law_X10_sent : GoodIn wsL_law (wsV RL 108 RX10 yX10_sent wsX10_sent) := goodIn_app (goodIn_of _ (by decide +kernel)) ggL_law_X10_sent
set_option maxRecDepth 20000 in
theorem ggL_law_X9_onLine : GoodIn wsL_law wsX9_onLine := goodIn_r _ [335, 20, 306, 307, 308, 19, 309, 305, 310, 801, 802, 803, 804, 805, 806, 845, 846, 847] (by decide +kernel) (by decide +kernel)
set_option maxRecDepth 20000 in
theorem gL_law_X9_onLine : GoodIn wsL_law (wsV RL 109 RX9 yX9_onLine wsX9_onLine) := goodIn_app (goodIn_of _ (by decide +kernel)) ggL_law_X9_onLine
set_option maxRecDepth 20000 in
theorem ggL_law_X10_onLine : GoodIn wsL_law wsX10_onLine := goodIn_r _ [339, 180, 315, 807, 808, 809, 810, 811, 812, 813, 814, 815, 816, 817, 818, 819, 820, 821, 822, 823, 824, 825, 826, 827, 828, 829, 830, 831, 832, 833, 834, 835, 836, 837, 838, 839, 840, 841] (by decide +kernel) (by decide +kernel)
set_option maxRecDepth 20000 in
theorem gL_law_X10_onLine : GoodIn wsL_law (wsV RL 112 RX10 yX10_onLine wsX10_onLine) := goodIn_app (goodIn_of _ (by decide +kernel)) ggL_law_X10_onLine
set_option maxRecDepth 20000 in
theorem ggL_law_L_bit : GoodIn wsL_law wsL_bit := goodIn_ca (goodIn_r _ [342, 196, 343, 344, 345, 2, 346, 205, 206, 20, 347, 348, 349, 19, 350, 351, 307, 308, 309, 305, 310, 352, 353, 354, 355, 47, 356, 801, 802, 803, 804, 805, 806, 845, 846, 847] (by decide +kernel) (by decide +kernel)) (goodIn_sub (fun _ h => List.mem_append_left _ (List.mem_append_right _ h)) (by decide +kernel))
set_option maxRecDepth 20000 in
theorem gL_law_L_bit : GoodIn wsL_law (va_wsS RL 113 yL_bit wsL_bit) := goodIn_app (goodIn_of _ (by decide +kernel)) ggL_law_L_bit
set_option maxRecDepth 20000 in
theorem ggL_law_X10_bit : GoodIn wsL_law wsX10_bit := goodIn_r _ [360, 89, 361, 362, 363, 5, 364, 315, 157, 158, 159, 176, 177, 178, 179, 180, 807, 808, 809, 810, 811, 812, 813, 814, 815, 816, 817, 818, 819, 820, 821, 822, 823, 824, 825, 826, 827, 828, 829, 830, 831, 832, 833, 834, 835, 836, 837, 838, 839, 840, 841] (by decide +kernel) (by decide +kernel)
set_option maxRecDepth 20000 in
theorem gL_law_X10_bit : GoodIn wsL_law (wsV RL 115 RX10 yX10_bit wsX10_bit) := goodIn_app (goodIn_of _ (by decide +kernel)) ggL_law_X10_bit
set_option maxRecDepth 20000 in
theorem ggL_law_L_flip : GoodIn wsL_law wsL_flip := goodIn_ca (goodIn_r _ [367, 196, 368, 369, 370, 2, 371, 205, 206, 20, 347, 348, 349, 19, 350, 351, 307, 308, 309, 305, 310, 372, 373, 374, 375, 47, 356, 801, 802, 803, 804, 805, 806, 845, 846, 847] (by decide +kernel) (by decide +kernel)) (goodIn_sub (fun _ h => List.mem_append_left _ (List.mem_append_right _ h)) (by decide +kernel))
set_option maxRecDepth 20000 in
theorem gL_law_L_flip : GoodIn wsL_law (va_wsS RL 116 yL_flip wsL_flip) := goodIn_app (goodIn_of _ (by decide +kernel)) ggL_law_L_flip
set_option maxRecDepth 20000 in
theorem ggL_law_X10_flip : GoodIn wsL_law wsX10_flip := goodIn_r _ [379, 89, 361, 362, 363, 5, 364, 315, 157, 158, 159, 176, 177, 178, 179, 180, 807, 808, 809, 810, 811, 812, 813, 814, 815, 816, 817, 818, 819, 820, 821, 822, 823, 824, 825, 826, 827, 828, 829, 830, 831, 832, 833, 834, 835, 836, 837, 838, 839, 840, 841] (by decide +kernel) (by decide +kernel)
set_option maxRecDepth 20000 in
theorem gL_law_X10_flip : GoodIn wsL_law (wsV RL 118 RX10 yX10_flip wsX10_flip) := goodIn_app (goodIn_of _ (by decide +kernel)) ggL_law_X10_flip
set_option maxRecDepth 20000 in
theorem ggL_law_L_cut : GoodIn wsL_law wsL_cut := goodIn_ca (goodIn_ca (goodIn_r _ [382, 108, 196, 383, 384, 385, 2, 386, 114, 115, 205, 206, 20, 347, 348, 349, 19, 350, 351, 307, 308, 309, 305, 310, 387, 388, 389, 390, 47, 391, 392, 393, 394, 356, 306, 801, 802, 803, 804, 805, 806, 845, 846, 847] (by decide +kernel) (by decide +kernel)) (goodIn_sub (fun _ h => List.mem_append_left _ (List.mem_append_left _ (List.mem_append_left _ (List.mem_append_right _ h)))) (by decide +kernel))) (goodIn_sub (fun _ h => List.mem_append_left _ (List.mem_append_right _ h)) (by decide +kernel))
set_option maxRecDepth 20000 in
theorem gL_law_L_cut : GoodIn wsL_law (va_wsS RL 119 yL_cut wsL_cut) := goodIn_app (goodIn_of _ (by decide +kernel)) ggL_law_L_cut
set_option maxRecDepth 20000 in
theorem ggL_law_X10_cut : GoodIn wsL_law wsX10_cut := goodIn_r _ [398, 315, 176, 177, 178, 5, 179, 180, 399, 400, 401, 402, 89, 807, 808, 809, 810, 811, 812, 813, 814, 815, 816, 817, 818, 819, 820, 821, 822, 823, 824, 825, 826, 827, 828, 829, 830, 831, 832, 833, 834, 835, 836, 837, 838, 839, 840, 841] (by decide +kernel) (by decide +kernel)
set_option maxRecDepth 20000 in
theorem gL_law_X10_cut : GoodIn wsL_law (wsV RL 121 RX10 yX10_cut wsX10_cut) := goodIn_app (goodIn_of _ (by decide +kernel)) ggL_law_X10_cut
set_option maxRecDepth 20000 in
theorem ggL_law_L_receive : GoodIn wsL_law wsL_receive := goodIn_ca (goodIn_r _ [405, 108, 406, 407, 408, 2, 409, 114, 115, 32, 20, 410, 411, 412, 413, 28, 16, 306, 307, 308, 19, 309, 305, 310, 414, 415, 416, 417, 47, 356, 348, 349, 350, 351, 418, 419, 420, 27, 421, 422, 423, 55, 54, 424, 425, 426, 427, 428, 429, 430, 431, 432, 433, 434, 435, 436, 437, 438, 439, 440, 441, 442, 443, 444, 445, 446, 447, 448, 449, 450, 451, 452, 453, 454, 455, 456, 457, 458, 459, 460, 31, 461, 462, 463, 464, 465, 466, 467, 468, 469, 470, 471, 208, 209, 15, 210, 125, 41, 472, 281, 282, 127, 283, 145, 147, 473, 474, 475, 476, 477, 478, 285, 286, 287, 146, 479, 480, 481, 482, 483, 484, 485, 486, 143, 150, 487, 488, 297, 298, 299, 300, 289, 290, 291, 148, 489, 490, 491, 492, 144, 249, 250, 251, 252, 493, 494, 495, 72, 496, 497, 498, 499, 801, 802, 803, 804, 805, 806, 857, 858, 859, 860, 861, 850, 851, 852, 853, 854, 855, 856, 845, 846, 847, 842, 843, 844, 871, 872, 873, 874, 875, 876, 877, 878, 879, 880, 868, 869, 870] (by decide +kernel) (by decide +kernel)) (goodIn_sub (fun _ h => List.mem_append_left _ (List.mem_append_left _ (List.mem_append_left _ (List.mem_append_right _ h)))) (by decide +kernel))
set_option maxRecDepth 20000 in
theorem gL_law_L_receive : GoodIn wsL_law (va_wsS RL 122 yL_receive wsL_receive) := goodIn_app (goodIn_of _ (by decide +kernel)) ggL_law_L_receive
set_option maxRecDepth 20000 in
theorem ggL_law_X10_receive : GoodIn wsL_law wsX10_receive := goodIn_r _ [503, 315, 89, 157, 158, 5, 159, 176, 177, 178, 179, 180, 504, 505, 506, 507, 90, 508, 509, 510, 103, 511, 512, 513, 514, 515, 516, 517, 518, 519, 520, 521, 522, 523, 524, 102, 525, 155, 94, 84, 526, 527, 528, 172, 173, 174, 175, 83, 85, 529, 530, 531, 532, 86, 91, 81, 92, 93, 533, 534, 535, 536, 82, 399, 400, 401, 402, 807, 808, 809, 810, 811, 812, 813, 814, 815, 816, 817, 818, 819, 820, 821, 822, 823, 824, 825, 826, 827, 828, 829, 830, 831, 832, 833, 834, 835, 836, 837, 838, 839, 840, 841] (by decide +kernel) (by decide +kernel)
set_option maxRecDepth 20000 in
theorem gL_law_X10_receive : GoodIn wsL_law (wsV RL 124 RX10 yX10_receive wsX10_receive) := goodIn_app (goodIn_of _ (by decide +kernel)) ggL_law_X10_receive
set_option maxRecDepth 20000 in
theorem ggL_law_X9_state : GoodIn wsL_law wsX9_state := goodIn_r _ [540, 28, 801, 802, 803, 804, 805, 806, 850, 851, 852, 853, 854, 855, 856] (by decide +kernel) (by decide +kernel)
set_option maxRecDepth 20000 in
theorem gL_law_X9_state : GoodIn wsL_law (wsV RL 125 RX9 yX9_state wsX9_state) := goodIn_app (goodIn_of _ (by decide +kernel)) ggL_law_X9_state
set_option maxRecDepth 20000 in
theorem ggL_law_X10_state : GoodIn wsL_law wsX10_state := goodIn_r _ [544, 180, 509, 807, 808, 809, 810, 811, 812, 813, 814, 815, 816, 817, 818, 819, 820, 821, 822, 823, 824, 825, 826, 827, 828, 829, 830, 831, 832, 833, 834, 835, 836, 837, 838, 839, 840, 841] (by decide +kernel) (by decide +kernel)
set_option maxRecDepth 20000 in
theorem gL_law_X10_state : GoodIn wsL_law (wsV RL 128 RX10 yX10_state wsX10_state) := goodIn_app (goodIn_of _ (by decide +kernel)) ggL_law_X10_state
set_option maxRecDepth 20000 in
theorem ggL_law_X9_taken : GoodIn wsL_law wsX9_taken := goodIn_r _ [548, 28, 801, 802, 803, 804, 805, 806, 850, 851, 852, 853, 854, 855, 856] (by decide +kernel) (by decide +kernel)
set_option maxRecDepth 20000 in
theorem gL_law_X9_taken : GoodIn wsL_law (wsV RL 129 RX9 yX9_taken wsX9_taken) := goodIn_app (goodIn_of _ (by decide +kernel)) ggL_law_X9_taken
set_option maxRecDepth 20000 in
theorem ggL_law_X10_taken : GoodIn wsL_law wsX10_taken := goodIn_r _ [552, 180, 508, 807, 808, 809, 810, 811, 812, 813, 814, 815, 816, 817, 818, 819, 820, 821, 822, 823, 824, 825, 826, 827, 828, 829, 830, 831, 832, 833, 834, 835, 836, 837, 838, 839, 840, 841] (by decide +kernel) (by decide +kernel)
set_option maxRecDepth 20000 in
theorem gL_law_X10_taken : GoodIn wsL_law (wsV RL 132 RX10 yX10_taken wsX10_taken) := goodIn_app (goodIn_of _ (by decide +kernel)) ggL_law_X10_taken
set_option maxRecDepth 20000 in
theorem ggL_law_X9_frames : GoodIn wsL_law wsX9_frames := goodIn_r _ [556, 32, 801, 802, 803, 804, 805, 806, 857, 858, 859, 860, 861] (by decide +kernel) (by decide +kernel)
set_option maxRecDepth 20000 in
theorem gL_law_X9_frames : GoodIn wsL_law (wsV RL 133 RX9 yX9_frames wsX9_frames) := goodIn_app (goodIn_of _ (by decide +kernel)) ggL_law_X9_frames
set_option maxRecDepth 20000 in
theorem ggL_law_X10_frames : GoodIn wsL_law wsX10_frames := goodIn_r _ [560, 180, 528, 807, 808, 809, 810, 811, 812, 813, 814, 815, 816, 817, 818, 819, 820, 821, 822, 823, 824, 825, 826, 827, 828, 829, 830, 831, 832, 833, 834, 835, 836, 837, 838, 839, 840, 841] (by decide +kernel) (by decide +kernel)
set_option maxRecDepth 20000 in
theorem gL_law_X10_frames : GoodIn wsL_law (wsV RL 136 RX10 yX10_frames wsX10_frames) := goodIn_app (goodIn_of _ (by decide +kernel)) ggL_law_X10_frames
set_option maxRecDepth 20000 in
theorem ggL_law_X9_lost : GoodIn wsL_law wsX9_lost := goodIn_r _ [564, 32, 801, 802, 803, 804, 805, 806, 857, 858, 859, 860, 861] (by decide +kernel) (by decide +kernel)
set_option maxRecDepth 20000 in
theorem gL_law_X9_lost : GoodIn wsL_law (wsV RL 137 RX9 yX9_lost wsX9_lost) := goodIn_app (goodIn_of _ (by decide +kernel)) ggL_law_X9_lost
set_option maxRecDepth 20000 in
theorem ggL_law_X10_lost : GoodIn wsL_law wsX10_lost := goodIn_r _ [568, 180, 526, 807, 808, 809, 810, 811, 812, 813, 814, 815, 816, 817, 818, 819, 820, 821, 822, 823, 824, 825, 826, 827, 828, 829, 830, 831, 832, 833, 834, 835, 836, 837, 838, 839, 840, 841] (by decide +kernel) (by decide +kernel)
set_option maxRecDepth 20000 in
theorem gL_law_X10_lost : GoodIn wsL_law (wsV RL 140 RX10 yX10_lost wsX10_lost) := goodIn_app (goodIn_of _ (by decide +kernel)) ggL_law_X10_lost
set_option maxRecDepth 20000 in
theorem ggL_law_X9_repeats : GoodIn wsL_law wsX9_repeats := goodIn_r _ [572, 32, 801, 802, 803, 804, 805, 806, 857, 858, 859, 860, 861] (by decide +kernel) (by decide +kernel)
set_option maxRecDepth 20000 in
theorem gL_law_X9_repeats : GoodIn wsL_law (wsV RL 141 RX9 yX9_repeats wsX9_repeats) := goodIn_app (goodIn_of _ (by decide +kernel)) ggL_law_X9_repeats
set_option maxRecDepth 20000 in
theorem ggL_law_X10_repeats : GoodIn wsL_law wsX10_repeats := goodIn_r _ [576, 180, 525, 807, 808, 809, 810, 811, 812, 813, 814, 815, 816, 817, 818, 819, 820, 821, 822, 823, 824, 825, 826, 827, 828, 829, 830, 831, 832, 833, 834, 835, 836, 837, 838, 839, 840, 841] (by decide +kernel) (by decide +kernel)
set_option maxRecDepth 20000 in
theorem gL_law_X10_repeats : GoodIn wsL_law (wsV RL 144 RX10 yX10_repeats wsX10_repeats) := goodIn_app (goodIn_of _ (by decide +kernel)) ggL_law_X10_repeats
set_option maxRecDepth 20000 in
theorem ggL_law_L_number : GoodIn wsL_law wsL_number := goodIn_ca (goodIn_r _ [579, 580, 581, 582, 583, 2, 584, 585, 586, 32, 801, 802, 803, 804, 805, 806, 857, 858, 859, 860, 861] (by decide +kernel) (by decide +kernel)) (goodIn_sub (fun _ h => List.mem_append_right _ h) (by decide +kernel))
set_option maxRecDepth 20000 in
theorem gL_law_L_number : GoodIn wsL_law (va_wsS RL 145 yL_number wsL_number) := goodIn_app (goodIn_of _ (by decide +kernel)) ggL_law_L_number
set_option maxRecDepth 20000 in
theorem ggL_law_X10_number : GoodIn wsL_law wsX10_number := goodIn_r _ [590, 528, 527, 176, 177, 178, 5, 179, 180, 807, 808, 809, 810, 811, 812, 813, 814, 815, 816, 817, 818, 819, 820, 821, 822, 823, 824, 825, 826, 827, 828, 829, 830, 831, 832, 833, 834, 835, 836, 837, 838, 839, 840, 841] (by decide +kernel) (by decide +kernel)
set_option maxRecDepth 20000 in
theorem gL_law_X10_number : GoodIn wsL_law (wsV RL 148 RX10 yX10_number wsX10_number) := goodIn_app (goodIn_of _ (by decide +kernel)) ggL_law_X10_number
set_option maxRecDepth 20000 in
theorem ggL_law_L_value : GoodIn wsL_law wsL_value := goodIn_ca (goodIn_ca (goodIn_r _ [593, 196, 580, 594, 595, 596, 2, 597, 201, 202, 203, 204, 205, 206, 16, 207, 208, 209, 15, 210, 125, 41, 598, 599, 600, 585, 586, 868, 869, 870, 801, 802, 803, 804, 805, 806, 842, 843, 844, 871, 872, 873, 874, 875, 876, 877, 878, 879, 880] (by decide +kernel) (by decide +kernel)) (goodIn_sub (fun _ h => List.mem_append_left _ (List.mem_append_right _ h)) (by decide +kernel))) (goodIn_sub (fun _ h => List.mem_append_right _ h) (by decide +kernel))
set_option maxRecDepth 20000 in
theorem gL_law_L_value : GoodIn wsL_law (va_wsS RL 149 yL_value wsL_value) := goodIn_app (goodIn_of _ (by decide +kernel)) ggL_law_L_value
set_option maxRecDepth 20000 in
theorem ggL_law_X10_value : GoodIn wsL_law wsX10_value := goodIn_r _ [604, 91, 605, 606, 607, 5, 608, 93, 215, 216, 217, 218, 155, 157, 158, 159, 176, 177, 178, 179, 180, 807, 808, 809, 810, 811, 812, 813, 814, 815, 816, 817, 818, 819, 820, 821, 822, 823, 824, 825, 826, 827, 828, 829, 830, 831, 832, 833, 834, 835, 836, 837, 838, 839, 840, 841] (by decide +kernel) (by decide +kernel)
set_option maxRecDepth 20000 in
theorem gL_law_X10_value : GoodIn wsL_law (wsV RL 151 RX10 yX10_value wsX10_value) := goodIn_app (goodIn_of _ (by decide +kernel)) ggL_law_X10_value
set_option maxRecDepth 20000 in
theorem ggL_law_L_time : GoodIn wsL_law wsL_time := goodIn_ca (goodIn_ca (goodIn_r _ [611, 196, 580, 612, 613, 614, 2, 615, 201, 202, 203, 204, 205, 206, 16, 207, 208, 209, 15, 210, 125, 41, 598, 599, 600, 585, 586, 868, 869, 870, 801, 802, 803, 804, 805, 806, 842, 843, 844, 871, 872, 873, 874, 875, 876, 877, 878, 879, 880] (by decide +kernel) (by decide +kernel)) (goodIn_sub (fun _ h => List.mem_append_left _ (List.mem_append_right _ h)) (by decide +kernel))) (goodIn_sub (fun _ h => List.mem_append_right _ h) (by decide +kernel))
set_option maxRecDepth 20000 in
theorem gL_law_L_time : GoodIn wsL_law (va_wsS RL 152 yL_time wsL_time) := goodIn_app (goodIn_of _ (by decide +kernel)) ggL_law_L_time
set_option maxRecDepth 20000 in
theorem ggL_law_X10_time : GoodIn wsL_law wsX10_time := goodIn_r _ [619, 92, 605, 606, 607, 5, 608, 93, 215, 216, 217, 218, 155, 157, 158, 159, 176, 177, 178, 179, 180, 807, 808, 809, 810, 811, 812, 813, 814, 815, 816, 817, 818, 819, 820, 821, 822, 823, 824, 825, 826, 827, 828, 829, 830, 831, 832, 833, 834, 835, 836, 837, 838, 839, 840, 841] (by decide +kernel) (by decide +kernel)
set_option maxRecDepth 20000 in
theorem gL_law_X10_time : GoodIn wsL_law (wsV RL 154 RX10 yX10_time wsX10_time) := goodIn_app (goodIn_of _ (by decide +kernel)) ggL_law_X10_time
set_option maxRecDepth 20000 in
theorem ggL_law_L_samples : GoodIn wsL_law wsL_samples := goodIn_ca (goodIn_r _ [622, 196, 623, 624, 625, 2, 626, 201, 202, 203, 204, 205, 206, 16, 207, 208, 209, 15, 210, 125, 41, 871, 872, 873, 874, 875, 876, 877, 878, 879, 880, 801, 802, 803, 804, 805, 806, 842, 843, 844] (by decide +kernel) (by decide +kernel)) (goodIn_sub (fun _ h => List.mem_append_left _ (List.mem_append_right _ h)) (by decide +kernel))
set_option maxRecDepth 20000 in
theorem gL_law_L_samples : GoodIn wsL_law (va_wsS RL 155 yL_samples wsL_samples) := goodIn_app (goodIn_of _ (by decide +kernel)) ggL_law_L_samples
set_option maxRecDepth 20000 in
theorem ggL_law_X10_samples : GoodIn wsL_law wsX10_samples := goodIn_r _ [630, 93, 215, 216, 217, 5, 218, 155, 157, 158, 159, 176, 177, 178, 179, 180, 807, 808, 809, 810, 811, 812, 813, 814, 815, 816, 817, 818, 819, 820, 821, 822, 823, 824, 825, 826, 827, 828, 829, 830, 831, 832, 833, 834, 835, 836, 837, 838, 839, 840, 841] (by decide +kernel) (by decide +kernel)
set_option maxRecDepth 20000 in
theorem gL_law_X10_samples : GoodIn wsL_law (wsV RL 157 RX10 yX10_samples wsX10_samples) := goodIn_app (goodIn_of _ (by decide +kernel)) ggL_law_X10_samples
set_option maxRecDepth 20000 in
theorem ggL_law_L_missing : GoodIn wsL_law wsL_missing := goodIn_ca (goodIn_r _ [633, 196, 634, 635, 636, 2, 637, 201, 202, 203, 204, 205, 206, 16, 207, 208, 209, 15, 210, 125, 41, 871, 872, 873, 874, 875, 876, 877, 878, 879, 880, 801, 802, 803, 804, 805, 806, 842, 843, 844] (by decide +kernel) (by decide +kernel)) (goodIn_sub (fun _ h => List.mem_append_left _ (List.mem_append_right _ h)) (by decide +kernel))
set_option maxRecDepth 20000 in
theorem gL_law_L_missing : GoodIn wsL_law (va_wsS RL 158 yL_missing wsL_missing) := goodIn_app (goodIn_of _ (by decide +kernel)) ggL_law_L_missing
set_option maxRecDepth 20000 in
theorem ggL_law_X10_missing : GoodIn wsL_law wsX10_missing := goodIn_r _ [641, 94, 215, 216, 217, 5, 218, 155, 157, 158, 159, 176, 177, 178, 179, 180, 807, 808, 809, 810, 811, 812, 813, 814, 815, 816, 817, 818, 819, 820, 821, 822, 823, 824, 825, 826, 827, 828, 829, 830, 831, 832, 833, 834, 835, 836, 837, 838, 839, 840, 841] (by decide +kernel) (by decide +kernel)
set_option maxRecDepth 20000 in
theorem gL_law_X10_missing : GoodIn wsL_law (wsV RL 160 RX10 yX10_missing wsX10_missing) := goodIn_app (goodIn_of _ (by decide +kernel)) ggL_law_X10_missing
set_option maxRecDepth 20000 in
theorem ggL_law_L_derive : GoodIn wsL_law wsL_derive := goodIn_ca (goodIn_ca (goodIn_r _ [644, 108, 109, 645, 646, 647, 2, 648, 114, 115, 116, 117, 36, 649, 650, 651, 652, 653, 654, 655, 656, 657, 35, 658, 64, 659, 660, 661, 662, 663, 664, 665, 666, 667, 668, 669, 670, 671, 672, 673, 801, 802, 803, 804, 805, 806, 862, 863, 864, 865, 866, 867] (by decide +kernel) (by decide +kernel)) (goodIn_sub (fun _ h => List.mem_append_left _ (List.mem_append_left _ (List.mem_append_left _ (List.mem_append_right _ h)))) (by decide +kernel))) (goodIn_sub (fun _ h => List.mem_append_left _ (List.mem_append_left _ (List.mem_append_right _ h))) (by decide +kernel))
set_option maxRecDepth 20000 in
theorem gL_law_L_derive : GoodIn wsL_law (va_wsS RL 161 yL_derive wsL_derive) := goodIn_app (goodIn_of _ (by decide +kernel)) ggL_law_L_derive
set_option maxRecDepth 20000 in
theorem ggL_law_X10_derive : GoodIn wsL_law wsX10_derive := goodIn_r _ [677, 95, 96, 97, 157, 158, 5, 159, 678, 679, 680, 681, 682, 683, 684, 176, 177, 178, 179, 180, 807, 808, 809, 810, 811, 812, 813, 814, 815, 816, 817, 818, 819, 820, 821, 822, 823, 824, 825, 826, 827, 828, 829, 830, 831, 832, 833, 834, 835, 836, 837, 838, 839, 840, 841] (by decide +kernel) (by decide +kernel)
set_option maxRecDepth 20000 in
theorem gL_law_X10_derive : GoodIn wsL_law (wsV RL 164 RX10 yX10_derive wsX10_derive) := goodIn_app (goodIn_of _ (by decide +kernel)) ggL_law_X10_derive
set_option maxRecDepth 20000 in
theorem ggL_law_L_derivedValue : GoodIn wsL_law wsL_derivedValue := goodIn_ca (goodIn_ca (goodIn_r _ [687, 108, 580, 688, 689, 690, 2, 691, 692, 693, 694, 695, 114, 115, 585, 586, 36, 16, 649, 650, 651, 696, 697, 698, 35, 699, 64, 700, 701, 702, 72, 703, 497, 704, 705, 706, 707, 708, 709, 710, 711, 670, 671, 672, 673, 712, 208, 209, 15, 210, 125, 41, 713, 714, 715, 66, 716, 717, 718, 719, 720, 412, 721, 722, 723, 724, 73, 725, 726, 727, 728, 729, 730, 731, 732, 733, 494, 495, 496, 498, 499, 868, 869, 870, 801, 802, 803, 804, 805, 806, 862, 863, 864, 865, 866, 867, 871, 872, 873, 874, 875, 876, 877, 878, 879, 880, 842, 843, 844] (by decide +kernel) (by decide +kernel)) (goodIn_sub (fun _ h => List.mem_append_left _ (List.mem_append_left _ (List.mem_append_left _ (List.mem_append_right _ h)))) (by decide +kernel))) (goodIn_sub (fun _ h => List.mem_append_right _ h) (by decide +kernel))
set_option maxRecDepth 20000 in
theorem gL_law_L_derivedValue : GoodIn wsL_law (va_wsS RL 165 yL_derivedValue wsL_derivedValue) := goodIn_app (goodIn_of _ (by decide +kernel)) ggL_law_L_derivedValue
set_option maxRecDepth 20000 in
theorem ggL_law_X10_derivedValue : GoodIn wsL_law wsX10_derivedValue := goodIn_r _ [737, 100, 738, 739, 740, 5, 741, 99, 742, 743, 744, 745, 95, 96, 97, 101, 746, 747, 748, 749, 155, 93, 750, 751, 752, 753, 91, 754, 755, 756, 757, 758, 759, 760, 761, 762, 92, 157, 158, 159, 176, 177, 178, 179, 180, 807, 808, 809, 810, 811, 812, 813, 814, 815, 816, 817, 818, 819, 820, 821, 822, 823, 824, 825, 826, 827, 828, 829, 830, 831, 832, 833, 834, 835, 836, 837, 838, 839, 840, 841] (by decide +kernel) (by decide +kernel)
set_option maxRecDepth 20000 in
theorem gL_law_X10_derivedValue : GoodIn wsL_law (wsV RL 167 RX10 yX10_derivedValue wsX10_derivedValue) := goodIn_app (goodIn_of _ (by decide +kernel)) ggL_law_X10_derivedValue
set_option maxRecDepth 20000 in
theorem ggL_law_L_derivedTime : GoodIn wsL_law wsL_derivedTime := goodIn_ca (goodIn_ca (goodIn_r _ [765, 108, 580, 766, 767, 768, 2, 769, 692, 693, 694, 695, 114, 115, 585, 586, 36, 16, 649, 650, 651, 696, 697, 698, 35, 699, 64, 700, 701, 702, 72, 703, 497, 704, 705, 706, 707, 708, 709, 710, 711, 670, 671, 672, 673, 712, 208, 209, 15, 210, 125, 41, 713, 714, 715, 66, 716, 717, 718, 719, 720, 412, 721, 722, 723, 724, 73, 725, 726, 727, 728, 729, 730, 731, 732, 733, 494, 495, 496, 498, 499, 868, 869, 870, 801, 802, 803, 804, 805, 806, 862, 863, 864, 865, 866, 867, 871, 872, 873, 874, 875, 876, 877, 878, 879, 880, 842, 843, 844] (by decide +kernel) (by decide +kernel)) (goodIn_sub (fun _ h => List.mem_append_left _ (List.mem_append_left _ (List.mem_append_left _ (List.mem_append_right _ h)))) (by decide +kernel))) (goodIn_sub (fun _ h => List.mem_append_right _ h) (by decide +kernel))
set_option maxRecDepth 20000 in
theorem gL_law_L_derivedTime : GoodIn wsL_law (va_wsS RL 168 yL_derivedTime wsL_derivedTime) := goodIn_app (goodIn_of _ (by decide +kernel)) ggL_law_L_derivedTime
set_option maxRecDepth 20000 in
theorem ggL_law_X10_derivedTime : GoodIn wsL_law wsX10_derivedTime := goodIn_r _ [773, 101, 738, 739, 740, 5, 741, 99, 742, 743, 744, 745, 95, 96, 97, 100, 746, 747, 748, 749, 155, 93, 750, 751, 752, 753, 91, 754, 755, 756, 757, 758, 759, 760, 761, 762, 92, 157, 158, 159, 176, 177, 178, 179, 180, 807, 808, 809, 810, 811, 812, 813, 814, 815, 816, 817, 818, 819, 820, 821, 822, 823, 824, 825, 826, 827, 828, 829, 830, 831, 832, 833, 834, 835, 836, 837, 838, 839, 840, 841] (by decide +kernel) (by decide +kernel)
set_option maxRecDepth 20000 in
theorem gL_law_X10_derivedTime : GoodIn wsL_law (wsV RL 170 RX10 yX10_derivedTime wsX10_derivedTime) := goodIn_app (goodIn_of _ (by decide +kernel)) ggL_law_X10_derivedTime
set_option maxRecDepth 20000 in
theorem ggL_law_L_matches : GoodIn wsL_law wsL_matches := goodIn_ca (goodIn_r _ [776, 108, 777, 778, 779, 2, 780, 114, 115, 28, 781, 782, 783, 27, 784, 55, 801, 802, 803, 804, 805, 806, 850, 851, 852, 853, 854, 855, 856] (by decide +kernel) (by decide +kernel)) (goodIn_sub (fun _ h => List.mem_append_left _ (List.mem_append_left _ (List.mem_append_left _ (List.mem_append_right _ h)))) (by decide +kernel))
set_option maxRecDepth 20000 in
theorem gL_law_L_matches : GoodIn wsL_law (va_wsS RL 171 yL_matches wsL_matches) := goodIn_app (goodIn_of _ (by decide +kernel)) ggL_law_L_matches
set_option maxRecDepth 20000 in
theorem ggL_law_X10_matches : GoodIn wsL_law wsX10_matches := goodIn_r _ [788, 157, 158, 5, 159, 176, 177, 178, 179, 180, 789, 790, 791, 792, 508, 512, 513, 514, 515, 90, 807, 808, 809, 810, 811, 812, 813, 814, 815, 816, 817, 818, 819, 820, 821, 822, 823, 824, 825, 826, 827, 828, 829, 830, 831, 832, 833, 834, 835, 836, 837, 838, 839, 840, 841] (by decide +kernel) (by decide +kernel)
set_option maxRecDepth 20000 in
theorem gL_law_X10_matches : GoodIn wsL_law (wsV RL 173 RX10 yX10_matches wsX10_matches) := goodIn_app (goodIn_of _ (by decide +kernel)) ggL_law_X10_matches
set_option maxRecDepth 20000 in
theorem ggL_law_X9_bestOffset : GoodIn wsL_law wsX9_bestOffset := goodIn_r _ [796, 28, 781, 782, 783, 27, 784, 55, 801, 802, 803, 804, 805, 806, 850, 851, 852, 853, 854, 855, 856] (by decide +kernel) (by decide +kernel)
set_option maxRecDepth 20000 in
theorem gL_law_X9_bestOffset : GoodIn wsL_law (wsV RL 174 RX9 yX9_bestOffset wsX9_bestOffset) := goodIn_app (goodIn_of _ (by decide +kernel)) ggL_law_X9_bestOffset
set_option maxRecDepth 20000 in
theorem ggL_law_X10_bestOffset : GoodIn wsL_law wsX10_bestOffset := goodIn_r _ [800, 180, 789, 790, 791, 5, 792, 508, 512, 513, 514, 515, 90, 807, 808, 809, 810, 811, 812, 813, 814, 815, 816, 817, 818, 819, 820, 821, 822, 823, 824, 825, 826, 827, 828, 829, 830, 831, 832, 833, 834, 835, 836, 837, 838, 839, 840, 841] (by decide +kernel) (by decide +kernel)
set_option maxRecDepth 20000 in
theorem gL_law_X10_bestOffset : GoodIn wsL_law (wsV RL 177 RX10 yX10_bestOffset wsX10_bestOffset) := goodIn_app (goodIn_of _ (by decide +kernel)) ggL_law_X10_bestOffset
