set_option maxRecDepth 20000 in
theorem ggL_law_X6_init : GoodIn wsL_law wsX6_init := goodIn_r _ [9, 10, 11, 12, 13, 14, 15, 16, 17, 18, 19, 20, 21, 22, 23, 24, 25, 26, 27, 28, 29, 30, 31, 32, 33, 34, 35, 36, 37, 38, 39, 40, 41, 42, 43, 44, 45, 46, 47, 48, 49, 50, 51, 52, 53, 54, 55, 56, 57, 58, 59, 60, 61, 62, 63, 64, 65, 66, 67, 68, 69, 70, 71, 72, 73, 74, 75, 76, 77, 78, 79, 80, 81, 82, 83, 84, 85, 86, 87, 88, 89, 90, 91, 92, 93, 94, 95, 96, 97, 98, 99, 100, 101, 102, 103, 104, 105, 106, 852, 853, 854, 855, 856, 857, 858, 859, 860, 861, 862, 863, 864, 832, 833, 834, 835, 836, 837, 838, 865, 866, 867, 868, 869, 870, 871, 872, 873, 874, 875, 876, 877, 878, 879] (by decide +kernel) (by decide +kernel)
set_option maxRecDepth 20000 in
theorem gL_law_X6_init : GoodIn wsL_law (wsX6_init) := ggL_law_X6_init
set_option maxRecDepth 20000 in
theorem ggL_law_X7_init : GoodIn wsL_law wsX7_init := goodIn_r _ [109, 110, 11, 12, 54, 111, 112, 113, 114, 115, 116, 117, 118, 119, 5, 120, 121, 122, 123, 124, 125, 126, 127, 128, 129, 130, 131, 132, 133, 134, 135, 839, 840, 841, 842, 843, 844, 845, 846, 847, 848, 849, 850, 851] (by decide +kernel) (by decide +kernel)
set_option maxRecDepth 20000 in
theorem gL_law_X7_init : GoodIn wsL_law (wsX7_init) := ggL_law_X7_init
set_option maxRecDepth 20000 in
theorem ggL_law_L_begin : GoodIn wsL_law wsL_begin := goodIn_ca (goodIn_r _ [139, 140, 141, 142, 143, 2, 144, 145, 146, 30, 16, 147, 148, 149, 150, 151, 152, 29, 153, 154, 155, 156, 157, 158, 159, 98, 160, 161, 162, 15, 163, 70, 71, 60, 61, 72, 42, 43, 44, 45, 46, 47, 48, 49, 164, 165, 166, 41, 167, 55, 168, 169, 170, 171, 172, 57, 58, 59, 62, 63, 64, 65, 173, 67, 68, 69, 73, 74, 75, 76, 174, 175, 176, 177, 832, 833, 834, 835, 836, 837, 838, 872, 873, 874, 852, 853, 854, 855, 856, 857, 858, 859, 860, 861, 862, 863, 864, 879] (by decide +kernel) (by decide +kernel)) (goodIn_sub (fun _ h => List.mem_append_left _ (List.mem_append_left _ (List.mem_append_right _ h))) (by decide +kernel))
set_option maxRecDepth 20000 in
theorem gL_law_L_begin : GoodIn wsL_law (va_wsS RL 83 yL_begin wsL_begin) := goodIn_app (goodIn_of _ (by decide +kernel)) ggL_law_L_begin
set_option maxRecDepth 20000 in
theorem ggL_law_X7_begin : GoodIn wsL_law wsX7_begin := goodIn_r _ [181, 182, 183, 184, 185, 186, 187, 5, 188, 189, 190, 191, 192, 193, 194, 195, 196, 197, 198, 112, 111, 117, 118, 119, 120, 121, 122, 123, 124, 125, 126, 127, 128, 129, 130, 131, 132, 133, 134, 135, 839, 840, 841, 842, 843, 844, 845, 846, 847, 848, 849, 850, 851] (by decide +kernel) (by decide +kernel)
set_option maxRecDepth 20000 in
theorem gL_law_X7_begin : GoodIn wsL_law (wsV RL 88 RX7 yX7_begin wsX7_begin) := goodIn_app (goodIn_of _ (by decide +kernel)) ggL_law_X7_begin
set_option maxRecDepth 20000 in
theorem ggL_law_X7_thrown : GoodIn wsL_law wsX7_thrown := goodIn_r _ [202, 193, 839, 840, 841, 842, 843, 844, 845, 846, 847, 848, 849, 850, 851] (by decide +kernel) (by decide +kernel)
set_option maxRecDepth 20000 in
theorem gL_law_X7_thrown : GoodIn wsL_law (wsV RL 89 RX7 yX7_thrown wsX7_thrown) := goodIn_app (goodIn_of _ (by decide +kernel)) ggL_law_X7_thrown
set_option maxRecDepth 20000 in
theorem ggL_law_L_setHeight : GoodIn wsL_law wsL_setHeight := goodIn_ca (goodIn_ca (goodIn_r _ [205, 206, 140, 207, 208, 209, 2, 210, 211, 212, 145, 146, 16, 30, 174, 175, 176, 15, 177, 70, 71, 147, 148, 149, 150, 151, 152, 29, 153, 154, 155, 156, 157, 158, 159, 98, 160, 161, 162, 163, 60, 61, 72, 42, 43, 44, 45, 46, 47, 48, 49, 164, 165, 166, 41, 167, 55, 168, 169, 170, 171, 213, 214, 215, 216, 217, 62, 63, 64, 65, 832, 833, 834, 835, 836, 837, 838, 852, 853, 854, 855, 856, 857, 858, 859, 860, 861, 862, 863, 864, 872, 873, 874, 879] (by decide +kernel) (by decide +kernel)) (goodIn_sub (fun _ h => List.mem_append_left _ (List.mem_append_right _ h)) (by decide +kernel))) (goodIn_sub (fun _ h => List.mem_append_left _ (List.mem_append_left _ (List.mem_append_right _ h))) (by decide +kernel))
set_option maxRecDepth 20000 in
theorem gL_law_L_setHeight : GoodIn wsL_law (va_wsS RL 92 yL_setHeight wsL_setHeight) := goodIn_app (goodIn_of _ (by decide +kernel)) ggL_law_L_setHeight
set_option maxRecDepth 20000 in
theorem ggL_law_X7_setHeight : GoodIn wsL_law wsX7_setHeight := goodIn_r _ [221, 222, 223, 224, 225, 5, 226, 125, 126, 127, 128, 111, 186, 187, 188, 189, 190, 191, 192, 193, 194, 195, 196, 197, 198, 112, 227, 228, 229, 230, 129, 130, 131, 132, 133, 134, 135, 839, 840, 841, 842, 843, 844, 845, 846, 847, 848, 849, 850, 851] (by decide +kernel) (by decide +kernel)
set_option maxRecDepth 20000 in
theorem gL_law_X7_setHeight : GoodIn wsL_law (wsV RL 95 RX7 yX7_setHeight wsX7_setHeight) := goodIn_app (goodIn_of _ (by decide +kernel)) ggL_law_X7_setHeight
set_option maxRecDepth 20000 in
theorem ggL_law_L_setTuft : GoodIn wsL_law wsL_setTuft := goodIn_ca (goodIn_ca (goodIn_r _ [233, 206, 140, 234, 235, 236, 2, 237, 211, 212, 145, 146, 16, 30, 174, 175, 176, 15, 177, 70, 71, 147, 148, 149, 150, 151, 152, 29, 153, 154, 155, 156, 157, 158, 159, 98, 160, 161, 162, 163, 60, 61, 72, 42, 43, 44, 45, 46, 47, 48, 49, 164, 165, 166, 41, 167, 55, 168, 169, 170, 171, 213, 238, 63, 64, 65, 832, 833, 834, 835, 836, 837, 838, 852, 853, 854, 855, 856, 857, 858, 859, 860, 861, 862, 863, 864, 872, 873, 874, 879] (by decide +kernel) (by decide +kernel)) (goodIn_sub (fun _ h => List.mem_append_left _ (List.mem_append_right _ h)) (by decide +kernel))) (goodIn_sub (fun _ h => List.mem_append_left _ (List.mem_append_left _ (List.mem_append_right _ h))) (by decide +kernel))
set_option maxRecDepth 20000 in
theorem gL_law_L_setTuft : GoodIn wsL_law (va_wsS RL 96 yL_setTuft wsL_setTuft) := goodIn_app (goodIn_of _ (by decide +kernel)) ggL_law_L_setTuft
set_option maxRecDepth 20000 in
theorem ggL_law_X7_setTuft : GoodIn wsL_law wsX7_setTuft := goodIn_r _ [242, 243, 111, 223, 224, 225, 5, 226, 125, 126, 127, 128, 186, 187, 188, 189, 190, 191, 192, 193, 194, 195, 196, 197, 198, 112, 227, 228, 229, 230, 129, 130, 131, 839, 840, 841, 842, 843, 844, 845, 846, 847, 848, 849, 850, 851] (by decide +kernel) (by decide +kernel)
set_option maxRecDepth 20000 in
theorem gL_law_X7_setTuft : GoodIn wsL_law (wsV RL 98 RX7 yX7_setTuft wsX7_setTuft) := goodIn_app (goodIn_of _ (by decide +kernel)) ggL_law_X7_setTuft
set_option maxRecDepth 20000 in
theorem ggL_law_L_setFence : GoodIn wsL_law wsL_setFence := goodIn_ca (goodIn_ca (goodIn_r _ [246, 206, 140, 247, 248, 249, 2, 250, 211, 212, 145, 146, 16, 30, 174, 175, 176, 15, 177, 70, 71, 147, 148, 149, 150, 151, 152, 29, 153, 154, 155, 156, 157, 158, 159, 98, 160, 161, 162, 163, 60, 61, 72, 42, 43, 44, 45, 46, 47, 48, 49, 164, 165, 166, 41, 167, 55, 168, 169, 170, 171, 251, 252, 253, 254, 255, 256, 257, 258, 259, 260, 261, 262, 263, 62, 63, 64, 65, 832, 833, 834, 835, 836, 837, 838, 852, 853, 854, 855, 856, 857, 858, 859, 860, 861, 862, 863, 864, 872, 873, 874, 879] (by decide +kernel) (by decide +kernel)) (goodIn_sub (fun _ h => List.mem_append_left _ (List.mem_append_right _ h)) (by decide +kernel))) (goodIn_sub (fun _ h => List.mem_append_left _ (List.mem_append_left _ (List.mem_append_right _ h))) (by decide +kernel))
set_option maxRecDepth 20000 in
theorem gL_law_L_setFence : GoodIn wsL_law (va_wsS RL 99 yL_setFence wsL_setFence) := goodIn_app (goodIn_of _ (by decide +kernel)) ggL_law_L_setFence
set_option maxRecDepth 20000 in
theorem ggL_law_X7_setFence : GoodIn wsL_law wsX7_setFence := goodIn_r _ [267, 268, 223, 224, 225, 5, 226, 125, 126, 127, 128, 111, 186, 187, 188, 189, 190, 191, 192, 193, 194, 195, 196, 197, 198, 112, 227, 228, 229, 230, 129, 130, 131, 269, 270, 271, 272, 839, 840, 841, 842, 843, 844, 845, 846, 847, 848, 849, 850, 851] (by decide +kernel) (by decide +kernel)
set_option maxRecDepth 20000 in
theorem gL_law_X7_setFence : GoodIn wsL_law (wsV RL 101 RX7 yX7_setFence wsX7_setFence) := goodIn_app (goodIn_of _ (by decide +kernel)) ggL_law_X7_setFence
set_option maxRecDepth 20000 in
theorem ggL_law_L_set : GoodIn wsL_law wsL_set := goodIn_ca (goodIn_r _ [275, 140, 276, 277, 278, 2, 279, 145, 146, 30, 16, 280, 281, 282, 147, 148, 149, 150, 151, 152, 29, 153, 154, 155, 156, 157, 158, 159, 98, 160, 161, 162, 15, 163, 70, 71, 60, 61, 72, 42, 43, 44, 45, 46, 47, 48, 49, 164, 165, 166, 41, 167, 55, 168, 169, 170, 171, 213, 238, 63, 64, 65, 832, 833, 834, 835, 836, 837, 838, 852, 853, 854, 855, 856, 857, 858, 859, 860, 861, 862, 863, 864, 872, 873, 874, 879] (by decide +kernel) (by decide +kernel)) (goodIn_sub (fun _ h => List.mem_append_left _ (List.mem_append_left _ (List.mem_append_right _ h))) (by decide +kernel))
set_option maxRecDepth 20000 in
theorem gL_law_L_set : GoodIn wsL_law (va_wsS RL 102 yL_set wsL_set) := goodIn_app (goodIn_of _ (by decide +kernel)) ggL_law_L_set
set_option maxRecDepth 20000 in
theorem ggL_law_X7_set : GoodIn wsL_law wsX7_set := goodIn_r _ [286, 111, 287, 288, 5, 289, 290, 291, 292, 243, 186, 187, 188, 189, 190, 191, 192, 193, 194, 195, 196, 197, 198, 112, 839, 840, 841, 842, 843, 844, 845, 846, 847, 848, 849, 850, 851] (by decide +kernel) (by decide +kernel)
set_option maxRecDepth 20000 in
theorem gL_law_X7_set : GoodIn wsL_law (wsV RL 104 RX7 yX7_set wsX7_set) := goodIn_app (goodIn_of _ (by decide +kernel)) ggL_law_X7_set
set_option maxRecDepth 20000 in
theorem ggL_law_L_setWind : GoodIn wsL_law wsL_setWind := goodIn_ca (goodIn_r _ [295, 140, 296, 297, 298, 2, 299, 145, 146, 300, 30, 16, 147, 148, 149, 150, 151, 152, 29, 153, 154, 155, 156, 157, 158, 159, 98, 160, 161, 162, 15, 163, 70, 71, 60, 61, 72, 42, 43, 44, 45, 46, 47, 48, 49, 164, 165, 166, 41, 167, 55, 168, 169, 170, 171, 832, 833, 834, 835, 836, 837, 838, 852, 853, 854, 855, 856, 857, 858, 859, 860, 861, 862, 863, 864, 872, 873, 874, 879] (by decide +kernel) (by decide +kernel)) (goodIn_sub (fun _ h => List.mem_append_left _ (List.mem_append_left _ (List.mem_append_right _ h))) (by decide +kernel))
set_option maxRecDepth 20000 in
theorem gL_law_L_setWind : GoodIn wsL_law (va_wsS RL 105 yL_setWind wsL_setWind) := goodIn_app (goodIn_of _ (by decide +kernel)) ggL_law_L_setWind
set_option maxRecDepth 20000 in
theorem ggL_law_X7_setWind : GoodIn wsL_law wsX7_setWind := goodIn_r _ [304, 182, 305, 306, 111, 186, 187, 5, 188, 189, 190, 191, 192, 193, 194, 195, 196, 197, 198, 112, 839, 840, 841, 842, 843, 844, 845, 846, 847, 848, 849, 850, 851] (by decide +kernel) (by decide +kernel)
set_option maxRecDepth 20000 in
theorem gL_law_X7_setWind : GoodIn wsL_law (wsV RL 107 RX7 yX7_setWind wsX7_setWind) := goodIn_app (goodIn_of _ (by decide +kernel)) ggL_law_X7_setWind
set_option maxRecDepth 20000 in
theorem ggL_law_L_run : GoodIn wsL_law wsL_run := goodIn_ca (goodIn_r _ [309, 140, 310, 311, 312, 2, 313, 145, 146, 30, 16, 20, 147, 148, 149, 150, 151, 152, 29, 153, 154, 155, 156, 157, 158, 159, 98, 160, 161, 162, 15, 163, 70, 71, 60, 61, 72, 42, 43, 44, 45, 46, 47, 48, 49, 164, 165, 166, 41, 167, 55, 168, 169, 170, 171, 314, 315, 316, 19, 317, 81, 318, 175, 176, 177, 319, 320, 321, 322, 323, 324, 325, 326, 327, 328, 329, 330, 82, 331, 332, 256, 257, 258, 259, 333, 334, 335, 336, 337, 338, 339, 340, 341, 342, 343, 344, 345, 346, 347, 348, 349, 350, 351, 352, 353, 354, 355, 356, 357, 358, 359, 360, 361, 362, 363, 364, 365, 366, 367, 368, 369, 370, 371, 372, 373, 374, 375, 376, 377, 378, 379, 380, 381, 382, 383, 384, 385, 386, 387, 388, 389, 390, 391, 392, 393, 394, 395, 396, 397, 398, 399, 63, 64, 65, 832, 833, 834, 835, 836, 837, 838, 872, 873, 874, 852, 853, 854, 855, 856, 857, 858, 859, 860, 861, 862, 863, 864, 879, 865, 866] (by decide +kernel) (by decide +kernel)) (goodIn_sub (fun _ h => List.mem_append_left _ (List.mem_append_left _ (List.mem_append_right _ h))) (by decide +kernel))
set_option maxRecDepth 20000 in
theorem gL_law_L_run : GoodIn wsL_law (va_wsS RL 108 yL_run wsL_run) := goodIn_app (goodIn_of _ (by decide +kernel)) ggL_law_L_run
set_option maxRecDepth 20000 in
theorem ggL_law_X7_run : GoodIn wsL_law wsX7_run := goodIn_r _ [403, 404, 186, 187, 5, 188, 189, 190, 191, 192, 193, 194, 195, 196, 197, 198, 112, 111, 405, 406, 407, 408, 409, 410, 411, 412, 413, 414, 125, 126, 127, 128, 415, 416, 417, 418, 419, 420, 421, 422, 423, 424, 425, 426, 227, 228, 229, 230, 129, 130, 131, 427, 428, 429, 430, 431, 432, 433, 434, 435, 436, 437, 438, 439, 440, 441, 442, 443, 444, 445, 446, 447, 448, 449, 450, 451, 452, 453, 454, 455, 456, 457, 458, 459, 460, 461, 462, 463, 464, 465, 466, 467, 468, 469, 470, 839, 840, 841, 842, 843, 844, 845, 846, 847, 848, 849, 850, 851] (by decide +kernel) (by decide +kernel)
set_option maxRecDepth 20000 in
theorem gL_law_X7_run : GoodIn wsL_law (wsV RL 111 RX7 yX7_run wsX7_run) := goodIn_app (goodIn_of _ (by decide +kernel)) ggL_law_X7_run
set_option maxRecDepth 20000 in
theorem ggL_law_X6_season : GoodIn wsL_law wsX6_season := goodIn_r _ [474, 30, 16, 150, 151, 152, 29, 153, 154, 155, 156, 157, 158, 159, 98, 160, 161, 162, 15, 163, 70, 71, 60, 61, 72, 42, 43, 44, 45, 46, 47, 48, 49, 164, 165, 166, 41, 167, 55, 168, 169, 170, 171, 475, 476, 477, 478, 479, 175, 176, 177, 259, 480, 481, 482, 483, 484, 485, 486, 487, 488, 489, 490, 491, 492, 493, 494, 62, 63, 64, 65, 832, 833, 834, 835, 836, 837, 838, 872, 873, 874, 852, 853, 854, 855, 856, 857, 858, 859, 860, 861, 862, 863, 864, 879] (by decide +kernel) (by decide +kernel)
set_option maxRecDepth 20000 in
theorem gL_law_X6_season : GoodIn wsL_law (wsV RL 112 RX6 yX6_season wsX6_season) := goodIn_app (goodIn_of _ (by decide +kernel)) ggL_law_X6_season
set_option maxRecDepth 20000 in
theorem ggL_law_X7_season : GoodIn wsL_law wsX7_season := goodIn_r _ [498, 193, 499, 292, 111, 194, 195, 196, 5, 197, 198, 112, 125, 126, 127, 128, 227, 228, 229, 230, 129, 130, 131, 186, 187, 188, 839, 840, 841, 842, 843, 844, 845, 846, 847, 848, 849, 850, 851] (by decide +kernel) (by decide +kernel)
set_option maxRecDepth 20000 in
theorem gL_law_X7_season : GoodIn wsL_law (wsV RL 115 RX7 yX7_season wsX7_season) := goodIn_app (goodIn_of _ (by decide +kernel)) ggL_law_X7_season
set_option maxRecDepth 20000 in
theorem ggL_law_L_value : GoodIn wsL_law wsL_value := goodIn_ca (goodIn_r _ [502, 140, 503, 504, 505, 2, 506, 145, 146, 16, 147, 148, 149, 507, 508, 509, 15, 510, 70, 71, 60, 61, 72, 42, 259, 169, 170, 41, 171, 55, 832, 833, 834, 835, 836, 837, 838, 852, 853, 854, 855, 856, 857, 858, 859, 860, 861, 862, 863, 864, 879] (by decide +kernel) (by decide +kernel)) (goodIn_sub (fun _ h => List.mem_append_left _ (List.mem_append_left _ (List.mem_append_right _ h))) (by decide +kernel))
set_option maxRecDepth 20000 in
theorem gL_law_L_value : GoodIn wsL_law (va_wsS RL 116 yL_value wsL_value) := goodIn_app (goodIn_of _ (by decide +kernel)) ggL_law_L_value
set_option maxRecDepth 20000 in
theorem ggL_law_X7_value : GoodIn wsL_law wsX7_value := goodIn_r _ [514, 290, 111, 186, 187, 5, 188, 189, 190, 191, 192, 193, 839, 840, 841, 842, 843, 844, 845, 846, 847, 848, 849, 850, 851] (by decide +kernel) (by decide +kernel)
set_option maxRecDepth 20000 in
theorem gL_law_X7_value : GoodIn wsL_law (wsV RL 118 RX7 yX7_value wsX7_value) := goodIn_app (goodIn_of _ (by decide +kernel)) ggL_law_X7_value
set_option maxRecDepth 20000 in
theorem ggL_law_L_cell : GoodIn wsL_law wsL_cell := goodIn_ca (goodIn_ca (goodIn_r _ [517, 206, 140, 518, 519, 520, 2, 521, 211, 212, 145, 146, 16, 174, 175, 176, 15, 177, 70, 71, 147, 148, 149, 522, 523, 524, 525, 43, 45, 46, 259, 169, 170, 41, 171, 55, 526, 252, 253, 254, 47, 255, 256, 257, 258, 527, 334, 335, 336, 337, 338, 339, 340, 60, 341, 342, 343, 344, 491, 492, 493, 494, 44, 832, 833, 834, 835, 836, 837, 838, 852, 853, 854, 855, 856, 857, 858, 859, 860, 861, 862, 863, 864, 879] (by decide +kernel) (by decide +kernel)) (goodIn_sub (fun _ h => List.mem_append_left _ (List.mem_append_right _ h)) (by decide +kernel))) (goodIn_sub (fun _ h => List.mem_append_left _ (List.mem_append_left _ (List.mem_append_right _ h))) (by decide +kernel))
set_option maxRecDepth 20000 in
theorem gL_law_L_cell : GoodIn wsL_law (va_wsS RL 119 yL_cell wsL_cell) := goodIn_app (goodIn_of _ (by decide +kernel)) ggL_law_L_cell
set_option maxRecDepth 20000 in
theorem ggL_law_X7_cell : GoodIn wsL_law wsX7_cell := goodIn_r _ [531, 291, 223, 224, 225, 5, 226, 125, 126, 127, 128, 111, 186, 187, 188, 189, 190, 191, 192, 193, 532, 533, 534, 535, 427, 428, 429, 430, 431, 432, 433, 434, 435, 436, 437, 438, 227, 228, 229, 230, 129, 130, 131, 839, 840, 841, 842, 843, 844, 845, 846, 847, 848, 849, 850, 851] (by decide +kernel) (by decide +kernel)
set_option maxRecDepth 20000 in
theorem gL_law_X7_cell : GoodIn wsL_law (wsV RL 121 RX7 yX7_cell wsX7_cell) := goodIn_app (goodIn_of _ (by decide +kernel)) ggL_law_X7_cell
set_option maxRecDepth 20000 in
theorem ggL_law_L_count : GoodIn wsL_law wsL_count := goodIn_ca (goodIn_r _ [538, 140, 539, 540, 541, 2, 542, 145, 146, 16, 147, 148, 149, 213, 169, 170, 41, 171, 55, 832, 833, 834, 835, 836, 837, 838, 852, 853, 854, 855, 856, 857, 858, 859, 860, 861, 862, 863, 864, 879] (by decide +kernel) (by decide +kernel)) (goodIn_sub (fun _ h => List.mem_append_left _ (List.mem_append_left _ (List.mem_append_right _ h))) (by decide +kernel))
set_option maxRecDepth 20000 in
theorem gL_law_L_count : GoodIn wsL_law (va_wsS RL 122 yL_count wsL_count) := goodIn_app (goodIn_of _ (by decide +kernel)) ggL_law_L_count
set_option maxRecDepth 20000 in
theorem ggL_law_X7_count : GoodIn wsL_law wsX7_count := goodIn_r _ [546, 547, 111, 186, 187, 5, 188, 189, 190, 191, 192, 193, 839, 840, 841, 842, 843, 844, 845, 846, 847, 848, 849, 850, 851] (by decide +kernel) (by decide +kernel)
set_option maxRecDepth 20000 in
theorem gL_law_X7_count : GoodIn wsL_law (wsV RL 124 RX7 yX7_count wsX7_count) := goodIn_app (goodIn_of _ (by decide +kernel)) ggL_law_X7_count
set_option maxRecDepth 20000 in
theorem ggL_law_L_latest : GoodIn wsL_law wsL_latest := goodIn_ca (goodIn_r _ [550, 140, 551, 552, 553, 2, 554, 145, 146, 16, 147, 148, 149, 213, 169, 170, 41, 171, 55, 832, 833, 834, 835, 836, 837, 838, 852, 853, 854, 855, 856, 857, 858, 859, 860, 861, 862, 863, 864, 879] (by decide +kernel) (by decide +kernel)) (goodIn_sub (fun _ h => List.mem_append_left _ (List.mem_append_left _ (List.mem_append_right _ h))) (by decide +kernel))
set_option maxRecDepth 20000 in
theorem gL_law_L_latest : GoodIn wsL_law (va_wsS RL 125 yL_latest wsL_latest) := goodIn_app (goodIn_of _ (by decide +kernel)) ggL_law_L_latest
set_option maxRecDepth 20000 in
theorem ggL_law_X7_latest : GoodIn wsL_law wsX7_latest := goodIn_r _ [558, 182, 111, 186, 187, 5, 188, 189, 190, 191, 192, 193, 839, 840, 841, 842, 843, 844, 845, 846, 847, 848, 849, 850, 851] (by decide +kernel) (by decide +kernel)
set_option maxRecDepth 20000 in
theorem gL_law_X7_latest : GoodIn wsL_law (wsV RL 127 RX7 yX7_latest wsX7_latest) := goodIn_app (goodIn_of _ (by decide +kernel)) ggL_law_X7_latest
