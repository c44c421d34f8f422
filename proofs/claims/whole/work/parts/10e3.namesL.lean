set_option maxRecDepth 20000 in
theorem ggL_law_X6_slabs : GoodIn wsL_law wsX6_slabs := goodIn_r _ [562, 16, 563, 564, 565, 15, 566, 43, 479, 175, 176, 177, 70, 71, 259, 169, 170, 41, 171, 55, 832, 833, 834, 835, 836, 837, 838, 852, 853, 854, 855, 856, 857, 858, 859, 860, 861, 862, 863, 864, 879] (by decide +kernel) (by decide +kernel)
set_option maxRecDepth 20000 in
theorem gL_law_X6_slabs : GoodIn wsL_law (wsV RL 128 RX6 yX6_slabs wsX6_slabs) := goodIn_app (goodIn_of _ (by decide +kernel)) ggL_law_X6_slabs
set_option maxRecDepth 20000 in
theorem ggL_law_X7_slabs : GoodIn wsL_law wsX7_slabs := goodIn_r _ [570, 193, 125, 126, 127, 5, 128, 111, 227, 228, 229, 230, 129, 130, 131, 839, 840, 841, 842, 843, 844, 845, 846, 847, 848, 849, 850, 851] (by decide +kernel) (by decide +kernel)
set_option maxRecDepth 20000 in
theorem gL_law_X7_slabs : GoodIn wsL_law (wsV RL 131 RX7 yX7_slabs wsX7_slabs) := goodIn_app (goodIn_of _ (by decide +kernel)) ggL_law_X7_slabs
set_option maxRecDepth 20000 in
theorem ggL_law_L_relief : GoodIn wsL_law wsL_relief := goodIn_ca (goodIn_r _ [573, 140, 574, 575, 576, 2, 577, 145, 146, 16, 578, 579, 580, 15, 581, 43, 479, 175, 176, 177, 70, 71, 259, 169, 170, 41, 171, 55, 213, 582, 583, 584, 585, 586, 587, 486, 588, 484, 485, 487, 341, 342, 343, 344, 589, 590, 591, 592, 832, 833, 834, 835, 836, 837, 838, 852, 853, 854, 855, 856, 857, 858, 859, 860, 861, 862, 863, 864, 879] (by decide +kernel) (by decide +kernel)) (goodIn_sub (fun _ h => List.mem_append_left _ (List.mem_append_left _ (List.mem_append_right _ h))) (by decide +kernel))
set_option maxRecDepth 20000 in
theorem gL_law_L_relief : GoodIn wsL_law (va_wsS RL 132 yL_relief wsL_relief) := goodIn_app (goodIn_of _ (by decide +kernel)) ggL_law_L_relief
set_option maxRecDepth 20000 in
theorem ggL_law_X7_relief : GoodIn wsL_law wsX7_relief := goodIn_r _ [596, 182, 186, 187, 5, 188, 189, 190, 191, 192, 193, 597, 598, 599, 600, 125, 126, 127, 128, 111, 227, 228, 229, 230, 129, 130, 131, 447, 448, 449, 450, 435, 436, 437, 438, 839, 840, 841, 842, 843, 844, 845, 846, 847, 848, 849, 850, 851] (by decide +kernel) (by decide +kernel)
set_option maxRecDepth 20000 in
theorem gL_law_X7_relief : GoodIn wsL_law (wsV RL 134 RX7 yX7_relief wsX7_relief) := goodIn_app (goodIn_of _ (by decide +kernel)) ggL_law_X7_relief
set_option maxRecDepth 20000 in
theorem ggL_law_X6_shadowHeight : GoodIn wsL_law wsX6_shadowHeight := goodIn_r _ [604, 16, 605, 606, 607, 15, 608, 43, 479, 175, 176, 177, 70, 71, 527, 334, 335, 336, 337, 338, 339, 340, 60, 259, 169, 170, 41, 171, 55, 341, 342, 343, 344, 832, 833, 834, 835, 836, 837, 838, 852, 853, 854, 855, 856, 857, 858, 859, 860, 861, 862, 863, 864, 879] (by decide +kernel) (by decide +kernel)
set_option maxRecDepth 20000 in
theorem gL_law_X6_shadowHeight : GoodIn wsL_law (wsV RL 135 RX6 yX6_shadowHeight wsX6_shadowHeight) := goodIn_app (goodIn_of _ (by decide +kernel)) ggL_law_X6_shadowHeight
set_option maxRecDepth 20000 in
theorem ggL_law_X7_shadowHeight : GoodIn wsL_law wsX7_shadowHeight := goodIn_r _ [612, 193, 125, 126, 127, 5, 128, 111, 427, 428, 429, 430, 431, 432, 433, 434, 435, 436, 437, 438, 227, 228, 229, 230, 129, 130, 131, 839, 840, 841, 842, 843, 844, 845, 846, 847, 848, 849, 850, 851] (by decide +kernel) (by decide +kernel)
set_option maxRecDepth 20000 in
theorem gL_law_X7_shadowHeight : GoodIn wsL_law (wsV RL 139 RX7 yX7_shadowHeight wsX7_shadowHeight) := goodIn_app (goodIn_of _ (by decide +kernel)) ggL_law_X7_shadowHeight
set_option maxRecDepth 20000 in
theorem ggL_law_L_dunes : GoodIn wsL_law wsL_dunes := goodIn_ca (goodIn_r _ [615, 140, 616, 617, 618, 2, 619, 145, 146, 26, 16, 147, 148, 149, 620, 621, 622, 25, 623, 88, 89, 90, 624, 625, 74, 75, 41, 76, 55, 626, 175, 176, 15, 177, 70, 71, 627, 169, 170, 171, 628, 629, 630, 631, 91, 632, 63, 64, 65, 633, 350, 351, 352, 634, 342, 343, 344, 832, 833, 834, 835, 836, 837, 838, 867, 868, 869, 870, 871, 852, 853, 854, 855, 856, 857, 858, 859, 860, 861, 862, 863, 864, 879] (by decide +kernel) (by decide +kernel)) (goodIn_sub (fun _ h => List.mem_append_left _ (List.mem_append_left _ (List.mem_append_right _ h))) (by decide +kernel))
set_option maxRecDepth 20000 in
theorem gL_law_L_dunes : GoodIn wsL_law (va_wsS RL 140 yL_dunes wsL_dunes) := goodIn_app (goodIn_of _ (by decide +kernel)) ggL_law_L_dunes
set_option maxRecDepth 20000 in
theorem ggL_law_X7_dunes : GoodIn wsL_law wsX7_dunes := goodIn_r _ [638, 639, 640, 5, 641, 222, 186, 187, 188, 189, 190, 191, 192, 193, 642, 643, 644, 645, 114, 125, 126, 127, 128, 111, 646, 647, 648, 649, 227, 228, 229, 230, 129, 130, 131, 650, 651, 652, 653, 115, 447, 448, 449, 450, 435, 436, 437, 438, 839, 840, 841, 842, 843, 844, 845, 846, 847, 848, 849, 850, 851] (by decide +kernel) (by decide +kernel)
set_option maxRecDepth 20000 in
theorem gL_law_X7_dunes : GoodIn wsL_law (wsV RL 142 RX7 yX7_dunes wsX7_dunes) := goodIn_app (goodIn_of _ (by decide +kernel)) ggL_law_X7_dunes
set_option maxRecDepth 20000 in
theorem ggL_law_L_greatestDune : GoodIn wsL_law wsL_greatestDune := goodIn_ca (goodIn_r _ [656, 140, 657, 658, 659, 2, 660, 145, 146, 26, 16, 147, 148, 149, 620, 621, 622, 25, 623, 88, 89, 90, 624, 625, 74, 75, 41, 76, 55, 626, 175, 176, 15, 177, 70, 71, 627, 169, 170, 171, 628, 629, 630, 631, 91, 632, 63, 64, 65, 633, 350, 351, 352, 634, 342, 343, 344, 661, 662, 663, 664, 665, 485, 486, 487, 832, 833, 834, 835, 836, 837, 838, 867, 868, 869, 870, 871, 852, 853, 854, 855, 856, 857, 858, 859, 860, 861, 862, 863, 864, 879] (by decide +kernel) (by decide +kernel)) (goodIn_sub (fun _ h => List.mem_append_left _ (List.mem_append_left _ (List.mem_append_right _ h))) (by decide +kernel))
set_option maxRecDepth 20000 in
theorem gL_law_L_greatestDune : GoodIn wsL_law (va_wsS RL 143 yL_greatestDune wsL_greatestDune) := goodIn_app (goodIn_of _ (by decide +kernel)) ggL_law_L_greatestDune
set_option maxRecDepth 20000 in
theorem ggL_law_X7_greatestDune : GoodIn wsL_law wsX7_greatestDune := goodIn_r _ [669, 114, 639, 640, 5, 641, 222, 186, 187, 188, 189, 190, 191, 192, 193, 642, 643, 644, 645, 125, 126, 127, 128, 111, 646, 647, 648, 649, 227, 228, 229, 230, 129, 130, 131, 650, 651, 652, 653, 115, 447, 448, 449, 450, 435, 436, 437, 438, 839, 840, 841, 842, 843, 844, 845, 846, 847, 848, 849, 850, 851] (by decide +kernel) (by decide +kernel)
set_option maxRecDepth 20000 in
theorem gL_law_X7_greatestDune : GoodIn wsL_law (wsV RL 145 RX7 yX7_greatestDune wsX7_greatestDune) := goodIn_app (goodIn_of _ (by decide +kernel)) ggL_law_X7_greatestDune
set_option maxRecDepth 20000 in
theorem ggL_law_L_duneOf : GoodIn wsL_law wsL_duneOf := goodIn_ca (goodIn_ca (goodIn_r _ [672, 206, 140, 673, 674, 675, 2, 676, 211, 212, 145, 146, 16, 26, 174, 175, 176, 15, 177, 70, 71, 147, 148, 149, 620, 621, 622, 25, 623, 88, 89, 90, 624, 625, 74, 75, 41, 76, 55, 626, 627, 169, 170, 171, 628, 629, 630, 631, 91, 632, 63, 64, 65, 633, 350, 351, 352, 634, 342, 343, 344, 677, 678, 679, 680, 832, 833, 834, 835, 836, 837, 838, 852, 853, 854, 855, 856, 857, 858, 859, 860, 861, 862, 863, 864, 867, 868, 869, 870, 871, 879] (by decide +kernel) (by decide +kernel)) (goodIn_sub (fun _ h => List.mem_append_left _ (List.mem_append_right _ h)) (by decide +kernel))) (goodIn_sub (fun _ h => List.mem_append_left _ (List.mem_append_left _ (List.mem_append_right _ h))) (by decide +kernel))
set_option maxRecDepth 20000 in
theorem gL_law_L_duneOf : GoodIn wsL_law (va_wsS RL 146 yL_duneOf wsL_duneOf) := goodIn_app (goodIn_of _ (by decide +kernel)) ggL_law_L_duneOf
set_option maxRecDepth 20000 in
theorem ggL_law_X7_duneOf : GoodIn wsL_law wsX7_duneOf := goodIn_r _ [684, 114, 223, 224, 225, 5, 226, 125, 126, 127, 128, 111, 186, 187, 188, 639, 640, 641, 222, 189, 190, 191, 192, 193, 642, 643, 644, 645, 646, 647, 648, 649, 227, 228, 229, 230, 129, 130, 131, 650, 651, 652, 653, 115, 447, 448, 449, 450, 435, 436, 437, 438, 839, 840, 841, 842, 843, 844, 845, 846, 847, 848, 849, 850, 851] (by decide +kernel) (by decide +kernel)
set_option maxRecDepth 20000 in
theorem gL_law_X7_duneOf : GoodIn wsL_law (wsV RL 148 RX7 yX7_duneOf wsX7_duneOf) := goodIn_app (goodIn_of _ (by decide +kernel)) ggL_law_X7_duneOf
set_option maxRecDepth 20000 in
theorem ggL_law_L_dunesAfter : GoodIn wsL_law wsL_dunesAfter := goodIn_ca (goodIn_r _ [687, 140, 688, 689, 690, 2, 691, 145, 146, 21, 16, 22, 26, 147, 148, 149, 692, 161, 162, 15, 163, 70, 71, 60, 61, 72, 42, 43, 44, 45, 46, 47, 48, 49, 164, 165, 166, 41, 167, 55, 168, 169, 170, 171, 314, 315, 316, 19, 317, 81, 318, 175, 176, 177, 319, 320, 321, 322, 323, 324, 325, 326, 327, 328, 329, 330, 82, 331, 332, 256, 257, 258, 259, 333, 334, 335, 336, 337, 338, 339, 340, 341, 342, 343, 344, 345, 346, 347, 348, 349, 350, 351, 352, 353, 354, 355, 356, 357, 358, 359, 360, 361, 362, 363, 364, 365, 366, 367, 368, 369, 370, 371, 372, 373, 374, 375, 376, 377, 378, 379, 380, 381, 382, 383, 384, 385, 386, 387, 388, 389, 390, 391, 392, 393, 394, 395, 396, 397, 398, 399, 63, 64, 65, 620, 621, 622, 25, 623, 88, 89, 90, 624, 625, 74, 75, 76, 626, 627, 628, 629, 630, 631, 91, 632, 633, 634, 832, 833, 834, 835, 836, 837, 838, 852, 853, 854, 855, 856, 857, 858, 859, 860, 861, 862, 863, 864, 879, 865, 866, 867, 868, 869, 870, 871] (by decide +kernel) (by decide +kernel)) (goodIn_sub (fun _ h => List.mem_append_left _ (List.mem_append_left _ (List.mem_append_right _ h))) (by decide +kernel))
set_option maxRecDepth 20000 in
theorem gL_law_L_dunesAfter : GoodIn wsL_law (va_wsS RL 149 yL_dunesAfter wsL_dunesAfter) := goodIn_app (goodIn_of _ (by decide +kernel)) ggL_law_L_dunesAfter
set_option maxRecDepth 20000 in
theorem ggL_law_X7_dunesAfter : GoodIn wsL_law wsX7_dunesAfter := goodIn_r _ [696, 697, 186, 187, 5, 188, 639, 640, 641, 222, 189, 190, 191, 192, 193, 698, 699, 700, 701, 113, 111, 405, 406, 407, 408, 409, 410, 411, 412, 413, 414, 125, 126, 127, 128, 415, 416, 417, 418, 419, 420, 421, 422, 423, 424, 425, 426, 227, 228, 229, 230, 129, 130, 131, 427, 428, 429, 430, 431, 432, 433, 434, 435, 436, 437, 438, 439, 440, 441, 442, 443, 444, 445, 446, 447, 448, 449, 450, 451, 452, 453, 454, 455, 456, 457, 458, 459, 460, 461, 462, 463, 464, 465, 466, 467, 468, 469, 470, 642, 643, 644, 645, 114, 646, 647, 648, 649, 650, 651, 652, 653, 115, 702, 703, 704, 705, 839, 840, 841, 842, 843, 844, 845, 846, 847, 848, 849, 850, 851] (by decide +kernel) (by decide +kernel)
set_option maxRecDepth 20000 in
theorem gL_law_X7_dunesAfter : GoodIn wsL_law (wsV RL 151 RX7 yX7_dunesAfter wsX7_dunesAfter) := goodIn_app (goodIn_of _ (by decide +kernel)) ggL_law_X7_dunesAfter
set_option maxRecDepth 20000 in
theorem ggL_law_L_bestFence : GoodIn wsL_law wsL_bestFence := goodIn_ca (goodIn_ca (goodIn_r _ [708, 206, 140, 709, 710, 711, 2, 712, 211, 212, 145, 146, 16, 147, 148, 149, 713, 256, 257, 15, 258, 46, 259, 169, 170, 41, 171, 55, 714, 715, 716, 717, 21, 22, 692, 161, 162, 163, 70, 71, 60, 61, 72, 42, 43, 44, 45, 47, 48, 49, 164, 165, 166, 167, 168, 260, 261, 262, 263, 62, 63, 64, 65, 314, 315, 316, 19, 317, 81, 318, 175, 176, 177, 319, 320, 321, 322, 323, 324, 325, 326, 327, 328, 329, 330, 82, 331, 332, 333, 334, 335, 336, 337, 338, 339, 340, 341, 342, 343, 344, 345, 346, 347, 348, 349, 350, 351, 352, 353, 354, 355, 356, 357, 358, 359, 360, 361, 362, 363, 364, 365, 366, 367, 368, 369, 370, 371, 372, 373, 374, 375, 376, 377, 378, 379, 380, 381, 382, 383, 384, 385, 386, 387, 388, 389, 390, 391, 392, 393, 394, 395, 396, 397, 398, 399, 251, 252, 253, 254, 255, 832, 833, 834, 835, 836, 837, 838, 852, 853, 854, 855, 856, 857, 858, 859, 860, 861, 862, 863, 864, 879, 865, 866] (by decide +kernel) (by decide +kernel)) (goodIn_sub (fun _ h => List.mem_append_left _ (List.mem_append_right _ h)) (by decide +kernel))) (goodIn_sub (fun _ h => List.mem_append_left _ (List.mem_append_left _ (List.mem_append_right _ h))) (by decide +kernel))
set_option maxRecDepth 20000 in
theorem gL_law_L_bestFence : GoodIn wsL_law (va_wsS RL 152 yL_bestFence wsL_bestFence) := goodIn_app (goodIn_of _ (by decide +kernel)) ggL_law_L_bestFence
set_option maxRecDepth 20000 in
theorem ggL_law_X7_bestFence : GoodIn wsL_law wsX7_bestFence := goodIn_r _ [721, 111, 722, 186, 187, 5, 188, 189, 190, 191, 192, 193, 698, 699, 700, 701, 113, 227, 228, 229, 230, 129, 130, 131, 269, 270, 271, 272, 405, 406, 407, 408, 409, 410, 411, 412, 413, 414, 125, 126, 127, 128, 415, 416, 417, 418, 419, 420, 421, 422, 423, 424, 425, 426, 427, 428, 429, 430, 431, 432, 433, 434, 435, 436, 437, 438, 439, 440, 441, 442, 443, 444, 445, 446, 447, 448, 449, 450, 451, 452, 453, 454, 455, 456, 457, 458, 459, 460, 461, 462, 463, 464, 465, 466, 467, 468, 469, 470, 702, 703, 704, 705, 839, 840, 841, 842, 843, 844, 845, 846, 847, 848, 849, 850, 851] (by decide +kernel) (by decide +kernel)
set_option maxRecDepth 20000 in
theorem gL_law_X7_bestFence : GoodIn wsL_law (wsV RL 154 RX7 yX7_bestFence wsX7_bestFence) := goodIn_app (goodIn_of _ (by decide +kernel)) ggL_law_X7_bestFence
set_option maxRecDepth 20000 in
theorem ggL_law_L_liveliestWind : GoodIn wsL_law wsL_liveliestWind := goodIn_ca (goodIn_r _ [725, 140, 726, 727, 728, 2, 729, 145, 146, 21, 16, 22, 147, 148, 149, 692, 161, 162, 15, 163, 70, 71, 60, 61, 72, 42, 43, 44, 45, 46, 47, 48, 49, 164, 165, 166, 41, 167, 55, 168, 169, 170, 171, 314, 315, 316, 19, 317, 81, 318, 175, 176, 177, 319, 320, 321, 322, 323, 324, 325, 326, 327, 328, 329, 330, 82, 331, 332, 256, 257, 258, 259, 333, 334, 335, 336, 337, 338, 339, 340, 341, 342, 343, 344, 345, 346, 347, 348, 349, 350, 351, 352, 353, 354, 355, 356, 357, 358, 359, 360, 361, 362, 363, 364, 365, 366, 367, 368, 369, 370, 371, 372, 373, 374, 375, 376, 377, 378, 379, 380, 381, 382, 383, 384, 385, 386, 387, 388, 389, 390, 391, 392, 393, 394, 395, 396, 397, 398, 399, 63, 64, 65, 832, 833, 834, 835, 836, 837, 838, 852, 853, 854, 855, 856, 857, 858, 859, 860, 861, 862, 863, 864, 879, 865, 866] (by decide +kernel) (by decide +kernel)) (goodIn_sub (fun _ h => List.mem_append_left _ (List.mem_append_left _ (List.mem_append_right _ h))) (by decide +kernel))
set_option maxRecDepth 20000 in
theorem gL_law_L_liveliestWind : GoodIn wsL_law (va_wsS RL 155 yL_liveliestWind wsL_liveliestWind) := goodIn_app (goodIn_of _ (by decide +kernel)) ggL_law_L_liveliestWind
set_option maxRecDepth 20000 in
theorem ggL_law_X7_liveliestWind : GoodIn wsL_law wsX7_liveliestWind := goodIn_r _ [733, 722, 111, 186, 187, 5, 188, 189, 190, 191, 192, 193, 698, 699, 700, 701, 113, 405, 406, 407, 408, 409, 410, 411, 412, 413, 414, 125, 126, 127, 128, 415, 416, 417, 418, 419, 420, 421, 422, 423, 424, 425, 426, 227, 228, 229, 230, 129, 130, 131, 427, 428, 429, 430, 431, 432, 433, 434, 435, 436, 437, 438, 439, 440, 441, 442, 443, 444, 445, 446, 447, 448, 449, 450, 451, 452, 453, 454, 455, 456, 457, 458, 459, 460, 461, 462, 463, 464, 465, 466, 467, 468, 469, 470, 702, 703, 704, 705, 839, 840, 841, 842, 843, 844, 845, 846, 847, 848, 849, 850, 851] (by decide +kernel) (by decide +kernel)
set_option maxRecDepth 20000 in
theorem gL_law_X7_liveliestWind : GoodIn wsL_law (wsV RL 157 RX7 yX7_liveliestWind wsX7_liveliestWind) := goodIn_app (goodIn_of _ (by decide +kernel)) ggL_law_X7_liveliestWind
set_option maxRecDepth 20000 in
theorem ggL_law_L_append : GoodIn wsL_law wsL_append := goodIn_ca (goodIn_ca (goodIn_r _ [736, 140, 737, 738, 739, 740, 2, 741, 145, 146, 742, 743, 34, 147, 148, 149, 744, 745, 746, 33, 747, 105, 748, 749, 63, 64, 41, 65, 55, 832, 833, 834, 835, 836, 837, 838, 875, 876, 877, 878, 879] (by decide +kernel) (by decide +kernel)) (goodIn_sub (fun _ h => List.mem_append_left _ (List.mem_append_left _ (List.mem_append_right _ h))) (by decide +kernel))) (goodIn_sub (fun _ h => List.mem_append_right _ h) (by decide +kernel))
set_option maxRecDepth 20000 in
theorem gL_law_L_append : GoodIn wsL_law (va_wsS RL 158 yL_append wsL_append) := goodIn_app (goodIn_of _ (by decide +kernel)) ggL_law_L_append
set_option maxRecDepth 20000 in
theorem ggL_law_X7_append : GoodIn wsL_law wsX7_append := goodIn_r _ [753, 754, 755, 116, 186, 187, 5, 188, 189, 190, 191, 192, 193, 839, 840, 841, 842, 843, 844, 845, 846, 847, 848, 849, 850, 851] (by decide +kernel) (by decide +kernel)
set_option maxRecDepth 20000 in
theorem gL_law_X7_append : GoodIn wsL_law (wsV RL 160 RX7 yX7_append wsX7_append) := goodIn_app (goodIn_of _ (by decide +kernel)) ggL_law_X7_append
set_option maxRecDepth 20000 in
theorem ggL_law_X6_clearText : GoodIn wsL_law wsX6_clearText := goodIn_r _ [759, 34, 832, 833, 834, 835, 836, 837, 838, 875, 876, 877, 878] (by decide +kernel) (by decide +kernel)
set_option maxRecDepth 20000 in
theorem gL_law_X6_clearText : GoodIn wsL_law (wsV RL 161 RX6 yX6_clearText wsX6_clearText) := goodIn_app (goodIn_of _ (by decide +kernel)) ggL_law_X6_clearText
set_option maxRecDepth 20000 in
theorem ggL_law_X7_clearText : GoodIn wsL_law wsX7_clearText := goodIn_r _ [763, 193, 755, 839, 840, 841, 842, 843, 844, 845, 846, 847, 848, 849, 850, 851] (by decide +kernel) (by decide +kernel)
set_option maxRecDepth 20000 in
theorem gL_law_X7_clearText : GoodIn wsL_law (wsV RL 164 RX7 yX7_clearText wsX7_clearText) := goodIn_app (goodIn_of _ (by decide +kernel)) ggL_law_X7_clearText
set_option maxRecDepth 20000 in
theorem ggL_law_X6_parse : GoodIn wsL_law wsX6_parse := goodIn_r _ [767, 34, 30, 16, 768, 769, 770, 33, 771, 772, 773, 748, 105, 774, 169, 170, 41, 171, 55, 148, 2, 149, 775, 776, 777, 778, 779, 780, 781, 782, 150, 151, 152, 29, 153, 154, 155, 156, 157, 158, 159, 98, 160, 161, 162, 15, 163, 70, 71, 60, 61, 72, 42, 43, 44, 45, 46, 47, 48, 49, 164, 165, 166, 167, 168, 173, 67, 68, 69, 73, 74, 75, 76, 174, 175, 176, 177, 783, 784, 785, 786, 214, 215, 216, 217, 62, 63, 64, 65, 832, 833, 834, 835, 836, 837, 838, 875, 876, 877, 878, 879, 872, 873, 874, 852, 853, 854, 855, 856, 857, 858, 859, 860, 861, 862, 863, 864] (by decide +kernel) (by decide +kernel)
set_option maxRecDepth 20000 in
theorem gL_law_X6_parse : GoodIn wsL_law (wsV RL 165 RX6 yX6_parse wsX6_parse) := goodIn_app (goodIn_of _ (by decide +kernel)) ggL_law_X6_parse
set_option maxRecDepth 20000 in
theorem ggL_law_X7_parse : GoodIn wsL_law wsX7_parse := goodIn_r _ [790, 193, 791, 792, 755, 116, 793, 794, 795, 5, 796, 797, 798, 186, 187, 188, 194, 195, 196, 197, 198, 112, 111, 121, 122, 123, 124, 125, 126, 127, 128, 129, 130, 131, 132, 133, 134, 135, 839, 840, 841, 842, 843, 844, 845, 846, 847, 848, 849, 850, 851] (by decide +kernel) (by decide +kernel)
set_option maxRecDepth 20000 in
theorem gL_law_X7_parse : GoodIn wsL_law (wsV RL 168 RX7 yX7_parse wsX7_parse) := goodIn_app (goodIn_of _ (by decide +kernel)) ggL_law_X7_parse
set_option maxRecDepth 20000 in
theorem ggL_law_L_undo : GoodIn wsL_law wsL_undo := goodIn_ca (goodIn_r _ [801, 737, 802, 803, 804, 2, 805, 742, 743, 30, 16, 806, 807, 808, 29, 809, 154, 156, 157, 158, 159, 155, 98, 160, 161, 162, 15, 163, 70, 71, 60, 61, 72, 42, 43, 44, 45, 46, 47, 48, 49, 164, 165, 166, 41, 167, 55, 168, 169, 170, 171, 832, 833, 834, 835, 836, 837, 838, 872, 873, 874, 852, 853, 854, 855, 856, 857, 858, 859, 860, 861, 862, 863, 864, 879] (by decide +kernel) (by decide +kernel)) (goodIn_sub (fun _ h => List.mem_append_right _ h) (by decide +kernel))
set_option maxRecDepth 20000 in
theorem gL_law_L_undo : GoodIn wsL_law (va_wsS RL 169 yL_undo wsL_undo) := goodIn_app (goodIn_of _ (by decide +kernel)) ggL_law_L_undo
set_option maxRecDepth 20000 in
theorem ggL_law_X7_undo : GoodIn wsL_law wsX7_undo := goodIn_r _ [813, 198, 111, 112, 189, 190, 191, 5, 192, 193, 839, 840, 841, 842, 843, 844, 845, 846, 847, 848, 849, 850, 851] (by decide +kernel) (by decide +kernel)
set_option maxRecDepth 20000 in
theorem gL_law_X7_undo : GoodIn wsL_law (wsV RL 172 RX7 yX7_undo wsX7_undo) := goodIn_app (goodIn_of _ (by decide +kernel)) ggL_law_X7_undo
set_option maxRecDepth 20000 in
theorem ggL_law_X6_digest : GoodIn wsL_law wsX6_digest := goodIn_r _ [817, 818, 34, 16, 26, 30, 819, 820, 2, 821, 822, 507, 508, 509, 15, 510, 70, 71, 60, 61, 72, 42, 259, 169, 170, 41, 171, 55, 174, 175, 176, 177, 522, 523, 524, 525, 43, 45, 46, 526, 252, 253, 254, 47, 255, 256, 257, 258, 527, 334, 335, 336, 337, 338, 339, 340, 341, 342, 343, 344, 491, 492, 493, 494, 44, 213, 620, 621, 622, 25, 623, 88, 89, 90, 624, 625, 74, 75, 76, 626, 627, 628, 629, 630, 631, 91, 632, 63, 64, 65, 633, 350, 351, 352, 634, 832, 833, 834, 835, 836, 837, 838, 875, 876, 877, 878, 852, 853, 854, 855, 856, 857, 858, 859, 860, 861, 862, 863, 864, 872, 873, 874, 879, 867, 868, 869, 870, 871] (by decide +kernel) (by decide +kernel)
set_option maxRecDepth 20000 in
theorem gL_law_X6_digest : GoodIn wsL_law (wsV RL 173 RX6 yX6_digest wsX6_digest) := goodIn_app (goodIn_of _ (by decide +kernel)) ggL_law_X6_digest
set_option maxRecDepth 20000 in
theorem ggL_law_X7_digest : GoodIn wsL_law wsX7_digest := goodIn_r _ [826, 193, 827, 755, 111, 198, 828, 829, 5, 830, 831, 125, 126, 127, 128, 532, 533, 534, 535, 427, 428, 429, 430, 431, 432, 433, 434, 435, 436, 437, 438, 227, 228, 229, 230, 129, 130, 131, 642, 643, 644, 645, 114, 646, 647, 648, 649, 650, 651, 652, 653, 115, 447, 448, 449, 450, 839, 840, 841, 842, 843, 844, 845, 846, 847, 848, 849, 850, 851] (by decide +kernel) (by decide +kernel)
set_option maxRecDepth 20000 in
theorem gL_law_X7_digest : GoodIn wsL_law (wsV RL 177 RX7 yX7_digest wsX7_digest) := goodIn_app (goodIn_of _ (by decide +kernel)) ggL_law_X7_digest
