theorem goodIn_c1 {big a : List Cond} {c : Cond} (h1 : GoodIn big [c]) (h2 : GoodIn big a) : GoodIn big (c :: a) := fun w h => (List.mem_cons.mp h).elim (fun e => h1 w (List.mem_singleton.mpr e)) (h2 w)
set_option maxRecDepth 20000 in
theorem gg_wsL_isStep_r1 : GoodIn wsL_law wsL_isStep_r1 := goodIn_r _ [152, 153, 154, 155, 2, 156, 116, 117, 12, 118, 119, 120, 157, 158, 159, 11, 160, 66, 67, 56, 57, 68, 38, 161] (by decide +kernel) (by decide +kernel)
set_option maxRecDepth 20000 in
theorem gg_wsL_isStep_r2 : GoodIn wsL_law wsL_isStep_r2 := goodIn_r _ [140, 141, 37, 142, 51, 108, 109, 105, 110, 111, 162, 163, 164, 165, 166, 167, 26, 145, 146, 147, 148, 121, 122, 123] (by decide +kernel) (by decide +kernel)
set_option maxRecDepth 20000 in
theorem gg_wsL_isStep_r3 : GoodIn wsL_law wsL_isStep_r3 := goodIn_r _ [25, 124, 125, 126, 127, 128, 129, 130, 94, 131, 132, 133, 134, 39, 40, 41, 42, 43, 44, 45, 135, 136, 137, 138] (by decide +kernel) (by decide +kernel)
set_option maxRecDepth 20000 in
theorem gg_wsL_isStep_r4 : GoodIn wsL_law wsL_isStep_r4 := goodIn_r _ [139, 168, 169, 170, 171, 172, 58, 59, 60, 61, 173, 174, 175, 176, 177, 178, 179, 180, 181, 182, 183, 184, 185, 186] (by decide +kernel) (by decide +kernel)
set_option maxRecDepth 20000 in
theorem gg_wsL_isStep_r5 : GoodIn wsL_law wsL_isStep_r5 := goodIn_r _ [187, 188, 189, 190, 191, 192, 193, 194, 195, 196, 197, 198, 199, 200, 201, 202, 203, 204, 205, 206, 207, 208, 209, 210] (by decide +kernel) (by decide +kernel)
set_option maxRecDepth 20000 in
theorem gg_wsL_isStep_r6 : GoodIn wsL_law wsL_isStep_r6 := goodIn_r _ [211, 212, 213, 214, 215, 216, 217, 218, 219, 220, 221, 222, 223, 224, 225, 226, 227, 228, 229, 230, 231, 232, 233, 234] (by decide +kernel) (by decide +kernel)
set_option maxRecDepth 20000 in
theorem gg_wsL_isStep_r7 : GoodIn wsL_law wsL_isStep_r7 := goodIn_r _ [235, 236, 237, 238, 239, 240, 241, 242, 243, 244, 245, 246, 247, 248, 249, 250, 251, 252, 253, 254, 255, 256, 257, 258] (by decide +kernel) (by decide +kernel)
set_option maxRecDepth 20000 in
theorem gg_wsL_isStep_r8 : GoodIn wsL_law wsL_isStep_r8 := goodIn_r _ [259, 260, 261, 262, 263, 264, 265, 16, 266, 267, 268, 15, 269, 77, 270, 271, 272, 273, 274, 275, 276, 277, 278, 279] (by decide +kernel) (by decide +kernel)
set_option maxRecDepth 20000 in
theorem gg_wsL_isStep_r9 : GoodIn wsL_law wsL_isStep_r9 := goodIn_r _ [280, 281, 282, 78, 283, 284, 285, 286, 287, 288, 289, 290, 291, 292, 293, 294, 295, 296, 297, 298, 299, 300, 301, 302] (by decide +kernel) (by decide +kernel)
set_option maxRecDepth 20000 in
theorem gg_wsL_isStep_r10 : GoodIn wsL_law wsL_isStep_r10 := goodIn_r _ [303, 304, 305, 306, 307, 308, 309, 310, 311, 312, 313, 314, 315, 316, 317, 318, 319, 320, 321, 322, 323, 324, 325, 326] (by decide +kernel) (by decide +kernel)
set_option maxRecDepth 20000 in
theorem gg_wsL_isStep_r11 : GoodIn wsL_law wsL_isStep_r11 := goodIn_r _ [327, 328, 329, 330, 331, 332, 333, 334, 335, 336, 337, 338, 339, 340, 341, 342, 343, 344] (by decide +kernel) (by decide +kernel)
set_option maxRecDepth 20000 in
theorem ggL_law_L_isStep : GoodIn wsL_law wsL_isStep := goodIn_c1 (goodIn_r _ [151] (by decide +kernel) (by decide +kernel)) (goodIn_app (goodIn_app (goodIn_app (goodIn_app (goodIn_app (goodIn_app (goodIn_app (goodIn_app gg_wsL_isStep_r1 (goodIn_app gg_wsL_isStep_r2 (goodIn_app gg_wsL_isStep_r3 (goodIn_app gg_wsL_isStep_r4 (goodIn_app gg_wsL_isStep_r5 (goodIn_app gg_wsL_isStep_r6 (goodIn_app gg_wsL_isStep_r7 (goodIn_app gg_wsL_isStep_r8 (goodIn_app gg_wsL_isStep_r9 (goodIn_app gg_wsL_isStep_r10 gg_wsL_isStep_r11)))))))))) (goodIn_sub inlX6 (by decide +kernel))) (goodIn_sub inlX1 (by decide +kernel))) (goodIn_sub inlX4 (by decide +kernel))) (goodIn_sub inlX3 (by decide +kernel))) (goodIn_sub inlX5 (by decide +kernel))) (goodIn_sub (fun _ h => List.mem_append_left _ (List.mem_append_left _ (List.mem_append_right _ h))) (by decide +kernel))) (goodIn_sub (fun _ h => List.mem_append_left _ (List.mem_append_right _ h)) (by decide +kernel)))
set_option maxRecDepth 20000 in
theorem gg_wsL_areAlike_r1 : GoodIn wsL_law wsL_areAlike_r1 := goodIn_r _ [348, 349, 350, 2, 351, 12, 352, 353, 354, 11, 355, 39, 214, 146, 147, 148, 66, 67, 250, 251, 252, 253, 254, 255] (by decide +kernel) (by decide +kernel)
set_option maxRecDepth 20000 in
theorem gg_wsL_areAlike_r2 : GoodIn wsL_law wsL_areAlike_r2 := goodIn_r _ [256, 257, 56, 161, 140, 141, 37, 142, 51, 258, 259, 260, 261, 153, 154, 155, 156, 116, 117, 118, 119, 120, 157, 158] (by decide +kernel) (by decide +kernel)
set_option maxRecDepth 20000 in
theorem gg_wsL_areAlike_r3 : GoodIn wsL_law wsL_areAlike_r3 := goodIn_r _ [159, 160, 57, 68, 38, 341, 342, 343, 344, 168, 241, 242, 243, 244, 166, 167, 145, 245, 246, 247, 248, 41, 42, 249] (by decide +kernel) (by decide +kernel)
set_option maxRecDepth 20000 in
theorem gg_wsL_areAlike_r4 : GoodIn wsL_law wsL_areAlike_r4 := goodIn_r _ [183, 184, 185, 43, 186, 187, 188, 189, 226, 227, 228, 229, 40] (by decide +kernel) (by decide +kernel)
set_option maxRecDepth 20000 in
theorem ggL_law_L_areAlike : GoodIn wsL_law wsL_areAlike := goodIn_c1 (goodIn_r _ [347] (by decide +kernel) (by decide +kernel)) (goodIn_app (goodIn_app (goodIn_app (goodIn_app (goodIn_app (goodIn_app gg_wsL_areAlike_r1 (goodIn_app gg_wsL_areAlike_r2 (goodIn_app gg_wsL_areAlike_r3 gg_wsL_areAlike_r4))) (goodIn_sub inlX6 (by decide +kernel))) (goodIn_sub inlX1 (by decide +kernel))) (goodIn_sub inlX4 (by decide +kernel))) (goodIn_sub (fun _ h => List.mem_append_left _ (List.mem_append_left _ (List.mem_append_right _ h))) (by decide +kernel))) (goodIn_sub (fun _ h => List.mem_append_left _ (List.mem_append_right _ h)) (by decide +kernel)))
set_option maxRecDepth 20000 in
theorem gg_wsL_isSound_r1 : GoodIn wsL_law wsL_isSound_r1 := goodIn_r _ [341, 342, 343, 2, 344, 116, 117, 12, 118, 119, 120, 168, 140, 141, 37, 142, 51, 359, 360, 361, 362, 363, 364, 365] (by decide +kernel) (by decide +kernel)
set_option maxRecDepth 20000 in
theorem gg_wsL_isSound_r2 : GoodIn wsL_law wsL_isSound_r2 := goodIn_r _ [11, 366, 39, 214, 146, 147, 148, 66, 67, 161, 367, 368, 369, 370, 371, 372, 221, 373, 219, 220, 222, 258, 259, 260] (by decide +kernel) (by decide +kernel)
set_option maxRecDepth 20000 in
theorem gg_wsL_isSound_r3 : GoodIn wsL_law wsL_isSound_r3 := goodIn_r _ [261, 374, 375, 376, 377, 241, 242, 243, 244, 166, 167, 145, 245, 246, 247, 248, 41, 42, 249, 183, 184, 185, 43, 186] (by decide +kernel) (by decide +kernel)
set_option maxRecDepth 20000 in
theorem gg_wsL_isSound_r4 : GoodIn wsL_law wsL_isSound_r4 := goodIn_r _ [187, 188, 189, 250, 251, 252, 253, 254, 255, 256, 257, 56, 226, 227, 228, 229, 40, 153, 154, 155, 156, 157, 158, 159] (by decide +kernel) (by decide +kernel)
set_option maxRecDepth 20000 in
theorem gg_wsL_isSound_r5 : GoodIn wsL_law wsL_isSound_r5 := goodIn_r _ [160, 57, 68, 38, 378, 379, 380, 381, 22, 382, 383, 384, 21, 385, 84, 85, 86, 386, 387, 70, 71, 72, 388, 389] (by decide +kernel) (by decide +kernel)
set_option maxRecDepth 20000 in
theorem gg_wsL_isSound_r6 : GoodIn wsL_law wsL_isSound_r6 := goodIn_r _ [390, 391, 392, 393, 87, 394, 59, 60, 61, 395, 291, 292, 293, 396, 397, 398, 399, 400, 401, 402, 403, 404, 230, 231] (by decide +kernel) (by decide +kernel)
set_option maxRecDepth 20000 in
theorem gg_wsL_isSound_r7 : GoodIn wsL_law wsL_isSound_r7 := goodIn_r _ [232, 233, 234, 235, 236, 237, 405, 406, 407, 408, 409, 410, 411, 412, 413, 414, 415, 416, 417] (by decide +kernel) (by decide +kernel)
set_option maxRecDepth 20000 in
theorem ggL_law_L_isSound : GoodIn wsL_law wsL_isSound := goodIn_c1 (goodIn_r _ [358] (by decide +kernel) (by decide +kernel)) (goodIn_app (goodIn_app (goodIn_app (goodIn_app (goodIn_app (goodIn_app (goodIn_app gg_wsL_isSound_r1 (goodIn_app gg_wsL_isSound_r2 (goodIn_app gg_wsL_isSound_r3 (goodIn_app gg_wsL_isSound_r4 (goodIn_app gg_wsL_isSound_r5 (goodIn_app gg_wsL_isSound_r6 gg_wsL_isSound_r7)))))) (goodIn_sub inlX6 (by decide +kernel))) (goodIn_sub inlX1 (by decide +kernel))) (goodIn_sub inlX4 (by decide +kernel))) (goodIn_sub inlX0 (by decide +kernel))) (goodIn_sub (fun _ h => List.mem_append_left _ (List.mem_append_left _ (List.mem_append_right _ h))) (by decide +kernel))) (goodIn_sub (fun _ h => List.mem_append_left _ (List.mem_append_right _ h)) (by decide +kernel)))
set_option maxRecDepth 20000 in
theorem ggL_law_X6_init : GoodIn wsL_law wsX6_init := goodIn_r _ [5, 6, 7, 8, 9, 10, 11, 12, 13, 14, 15, 16, 17, 18, 19, 20, 21, 22, 23, 24, 25, 26, 27, 28, 29, 30, 31, 32, 33, 34, 35, 36, 37, 38, 39, 40, 41, 42, 43, 44, 45, 46, 47, 48, 49, 50, 51, 52, 53, 54, 55, 56, 57, 58, 59, 60, 61, 62, 63, 64, 65, 66, 67, 68, 69, 70, 71, 72, 73, 74, 75, 76, 77, 78, 79, 80, 81, 82, 83, 84, 85, 86, 87, 88, 89, 90, 91, 92, 93, 94, 95, 96, 97, 98, 99, 100, 101, 102, 462, 463, 464, 465, 466, 467, 468, 469, 470, 471, 472, 473, 474, 455, 456, 457, 458, 459, 460, 461, 475, 476, 477, 478, 479, 480, 481, 482, 483, 484, 485, 486, 487, 488, 489] (by decide +kernel) (by decide +kernel)
set_option maxRecDepth 20000 in
theorem gL_law_X6_init : GoodIn wsL_law (wsX6_init) := ggL_law_X6_init
set_option maxRecDepth 20000 in
theorem ggL_law_L_cell : GoodIn wsL_law wsL_cell := goodIn_r _ [106, 107] (by decide +kernel) (by decide +kernel)
set_option maxRecDepth 20000 in
theorem gL_law_L_cell : GoodIn wsL_law (va_wsS RL 77 yL_cell wsL_cell) := goodIn_app (goodIn_of _ (by decide +kernel)) ggL_law_L_cell
set_option maxRecDepth 20000 in
theorem ggL_law_L_up : GoodIn wsL_law wsL_up := goodIn_r _ [110, 111] (by decide +kernel) (by decide +kernel)
set_option maxRecDepth 20000 in
theorem gL_law_L_up : GoodIn wsL_law (va_wsS RL 15 yL_up wsL_up) := goodIn_app (goodIn_of _ (by decide +kernel)) ggL_law_L_up
set_option maxRecDepth 20000 in
theorem ggL_law_X6_begin : GoodIn wsL_law wsX6_begin := goodIn_ca (goodIn_r _ [115, 116, 117, 26, 12, 118, 119, 2, 120, 121, 122, 123, 25, 124, 125, 126, 127, 128, 129, 130, 94, 131, 132, 133, 11, 134, 66, 67, 56, 57, 68, 38, 39, 40, 41, 42, 43, 44, 45, 135, 136, 137, 37, 138, 51, 139, 140, 141, 142, 143, 53, 54, 55, 58, 59, 60, 61, 144, 63, 64, 65, 69, 70, 71, 72, 145, 146, 147, 148, 455, 456, 457, 458, 459, 460, 461, 482, 483, 484, 462, 463, 464, 465, 466, 467, 468, 469, 470, 471, 472, 473, 474, 489] (by decide +kernel) (by decide +kernel)) (goodIn_sub (fun _ h => List.mem_append_left _ (List.mem_append_left _ (List.mem_append_right _ h))) (by decide +kernel))
set_option maxRecDepth 20000 in
theorem gL_law_X6_begin : GoodIn wsL_law (wsV RL 80 RX6 yX6_begin wsX6_begin) := goodIn_app (goodIn_of _ (by decide +kernel)) ggL_law_X6_begin
set_option maxRecDepth 20000 in
theorem gL_law_L_isStep : GoodIn wsL_law (va_wsS RL 84 yL_isStep wsL_isStep) := goodIn_app (goodIn_of _ (by decide +kernel)) ggL_law_L_isStep
set_option maxRecDepth 20000 in
theorem gL_law_L_areAlike : GoodIn wsL_law (va_wsS RL 88 yL_areAlike wsL_areAlike) := goodIn_app (goodIn_of _ (by decide +kernel)) ggL_law_L_areAlike
set_option maxRecDepth 20000 in
theorem gL_law_L_isSound : GoodIn wsL_law (va_wsS RL 92 yL_isSound wsL_isSound) := goodIn_app (goodIn_of _ (by decide +kernel)) ggL_law_L_isSound
set_option maxRecDepth 20000 in
theorem ggL_law_X6_liveliestWind : GoodIn wsL_law wsX6_liveliestWind := goodIn_ca (goodIn_r _ [421, 116, 117, 17, 12, 18, 118, 119, 2, 120, 422, 132, 133, 11, 134, 66, 67, 56, 57, 68, 38, 39, 40, 41, 42, 43, 44, 45, 135, 136, 137, 37, 138, 51, 139, 140, 141, 142, 266, 267, 268, 15, 269, 77, 270, 146, 147, 148, 271, 272, 273, 274, 275, 276, 277, 278, 279, 280, 281, 282, 78, 283, 284, 187, 188, 189, 161, 285, 251, 252, 253, 254, 255, 256, 257, 258, 259, 260, 261, 286, 287, 288, 289, 290, 291, 292, 293, 294, 295, 296, 297, 298, 299, 300, 301, 302, 303, 304, 305, 306, 307, 308, 309, 310, 311, 312, 313, 314, 315, 316, 317, 318, 319, 320, 321, 322, 323, 324, 325, 326, 327, 328, 329, 330, 331, 332, 333, 334, 335, 336, 337, 338, 339, 340, 59, 60, 61, 455, 456, 457, 458, 459, 460, 461, 462, 463, 464, 465, 466, 467, 468, 469, 470, 471, 472, 473, 474, 489, 475, 476] (by decide +kernel) (by decide +kernel)) (goodIn_sub (fun _ h => List.mem_append_left _ (List.mem_append_left _ (List.mem_append_right _ h))) (by decide +kernel))
set_option maxRecDepth 20000 in
theorem gL_law_X6_liveliestWind : GoodIn wsL_law (wsV RL 96 RX6 yX6_liveliestWind wsX6_liveliestWind) := goodIn_app (goodIn_of _ (by decide +kernel)) ggL_law_X6_liveliestWind
set_option maxRecDepth 20000 in
theorem ggL_law_X6_dunesAfter : GoodIn wsL_law wsX6_dunesAfter := goodIn_ca (goodIn_r _ [426, 116, 117, 17, 12, 18, 22, 118, 119, 2, 120, 422, 132, 133, 11, 134, 66, 67, 56, 57, 68, 38, 39, 40, 41, 42, 43, 44, 45, 135, 136, 137, 37, 138, 51, 139, 140, 141, 142, 266, 267, 268, 15, 269, 77, 270, 146, 147, 148, 271, 272, 273, 274, 275, 276, 277, 278, 279, 280, 281, 282, 78, 283, 284, 187, 188, 189, 161, 285, 251, 252, 253, 254, 255, 256, 257, 258, 259, 260, 261, 286, 287, 288, 289, 290, 291, 292, 293, 294, 295, 296, 297, 298, 299, 300, 301, 302, 303, 304, 305, 306, 307, 308, 309, 310, 311, 312, 313, 314, 315, 316, 317, 318, 319, 320, 321, 322, 323, 324, 325, 326, 327, 328, 329, 330, 331, 332, 333, 334, 335, 336, 337, 338, 339, 340, 59, 60, 61, 382, 383, 384, 21, 385, 84, 85, 86, 386, 387, 70, 71, 72, 388, 389, 390, 391, 392, 393, 87, 394, 395, 396, 455, 456, 457, 458, 459, 460, 461, 462, 463, 464, 465, 466, 467, 468, 469, 470, 471, 472, 473, 474, 489, 475, 476, 477, 478, 479, 480, 481] (by decide +kernel) (by decide +kernel)) (goodIn_sub (fun _ h => List.mem_append_left _ (List.mem_append_left _ (List.mem_append_right _ h))) (by decide +kernel))
set_option maxRecDepth 20000 in
theorem gL_law_X6_dunesAfter : GoodIn wsL_law (wsV RL 99 RX6 yX6_dunesAfter wsX6_dunesAfter) := goodIn_app (goodIn_of _ (by decide +kernel)) ggL_law_X6_dunesAfter
set_option maxRecDepth 20000 in
theorem ggL_law_X6_bestFence : GoodIn wsL_law wsX6_bestFence := goodIn_ca (goodIn_ca (goodIn_r _ [430, 166, 167, 116, 117, 12, 118, 119, 2, 120, 431, 187, 188, 11, 189, 42, 161, 140, 141, 37, 142, 51, 432, 433, 434, 435, 17, 18, 422, 132, 133, 134, 66, 67, 56, 57, 68, 38, 39, 40, 41, 43, 44, 45, 135, 136, 137, 138, 139, 190, 191, 192, 193, 58, 59, 60, 61, 266, 267, 268, 15, 269, 77, 270, 146, 147, 148, 271, 272, 273, 274, 275, 276, 277, 278, 279, 280, 281, 282, 78, 283, 284, 285, 251, 252, 253, 254, 255, 256, 257, 258, 259, 260, 261, 286, 287, 288, 289, 290, 291, 292, 293, 294, 295, 296, 297, 298, 299, 300, 301, 302, 303, 304, 305, 306, 307, 308, 309, 310, 311, 312, 313, 314, 315, 316, 317, 318, 319, 320, 321, 322, 323, 324, 325, 326, 327, 328, 329, 330, 331, 332, 333, 334, 335, 336, 337, 338, 339, 340, 182, 183, 184, 185, 186, 455, 456, 457, 458, 459, 460, 461, 462, 463, 464, 465, 466, 467, 468, 469, 470, 471, 472, 473, 474, 489, 475, 476] (by decide +kernel) (by decide +kernel)) (goodIn_sub (fun _ h => List.mem_append_left _ (List.mem_append_right _ h)) (by decide +kernel))) (goodIn_sub (fun _ h => List.mem_append_left _ (List.mem_append_left _ (List.mem_append_right _ h))) (by decide +kernel))
set_option maxRecDepth 20000 in
theorem gL_law_X6_bestFence : GoodIn wsL_law (wsV RL 102 RX6 yX6_bestFence wsX6_bestFence) := goodIn_app (goodIn_of _ (by decide +kernel)) ggL_law_X6_bestFence
set_option maxRecDepth 20000 in
theorem ggL_law_X6_digest : GoodIn wsL_law wsX6_digest := goodIn_r _ [439, 440, 30, 12, 22, 26, 441, 442, 2, 443, 444, 157, 158, 159, 11, 160, 66, 67, 56, 57, 68, 38, 161, 140, 141, 37, 142, 51, 145, 146, 147, 148, 245, 246, 247, 248, 39, 41, 42, 249, 183, 184, 185, 43, 186, 187, 188, 189, 250, 251, 252, 253, 254, 255, 256, 257, 258, 259, 260, 261, 226, 227, 228, 229, 40, 168, 382, 383, 384, 21, 385, 84, 85, 86, 386, 387, 70, 71, 72, 388, 389, 390, 391, 392, 393, 87, 394, 59, 60, 61, 395, 291, 292, 293, 396, 455, 456, 457, 458, 459, 460, 461, 485, 486, 487, 488, 462, 463, 464, 465, 466, 467, 468, 469, 470, 471, 472, 473, 474, 482, 483, 484, 489, 477, 478, 479, 480, 481] (by decide +kernel) (by decide +kernel)
set_option maxRecDepth 20000 in
theorem gL_law_X6_digest : GoodIn wsL_law (wsV RL 105 RX6 yX6_digest wsX6_digest) := goodIn_app (goodIn_of _ (by decide +kernel)) ggL_law_X6_digest
set_option maxRecDepth 20000 in
theorem ggL_law_X6_run : GoodIn wsL_law wsX6_run := goodIn_ca (goodIn_r _ [265, 116, 117, 26, 12, 16, 118, 119, 2, 120, 121, 122, 123, 25, 124, 125, 126, 127, 128, 129, 130, 94, 131, 132, 133, 11, 134, 66, 67, 56, 57, 68, 38, 39, 40, 41, 42, 43, 44, 45, 135, 136, 137, 37, 138, 51, 139, 140, 141, 142, 266, 267, 268, 15, 269, 77, 270, 146, 147, 148, 271, 272, 273, 274, 275, 276, 277, 278, 279, 280, 281, 282, 78, 283, 284, 187, 188, 189, 161, 285, 251, 252, 253, 254, 255, 256, 257, 258, 259, 260, 261, 286, 287, 288, 289, 290, 291, 292, 293, 294, 295, 296, 297, 298, 299, 300, 301, 302, 303, 304, 305, 306, 307, 308, 309, 310, 311, 312, 313, 314, 315, 316, 317, 318, 319, 320, 321, 322, 323, 324, 325, 326, 327, 328, 329, 330, 331, 332, 333, 334, 335, 336, 337, 338, 339, 340, 59, 60, 61, 455, 456, 457, 458, 459, 460, 461, 482, 483, 484, 462, 463, 464, 465, 466, 467, 468, 469, 470, 471, 472, 473, 474, 489, 475, 476] (by decide +kernel) (by decide +kernel)) (goodIn_sub (fun _ h => List.mem_append_left _ (List.mem_append_left _ (List.mem_append_right _ h))) (by decide +kernel))
set_option maxRecDepth 20000 in
theorem gL_law_X6_run : GoodIn wsL_law (wsV RL 48 RX6 yX6_run wsX6_run) := goodIn_app (goodIn_of _ (by decide +kernel)) ggL_law_X6_run
set_option maxRecDepth 20000 in
theorem ggL_law_X6_undo : GoodIn wsL_law wsX6_undo := goodIn_ca (goodIn_r _ [448, 449, 450, 26, 12, 451, 452, 453, 25, 454, 125, 127, 128, 129, 130, 126, 94, 131, 132, 133, 11, 134, 66, 67, 56, 57, 68, 38, 39, 40, 41, 42, 43, 44, 45, 135, 136, 137, 37, 138, 51, 139, 140, 141, 142, 455, 456, 457, 458, 459, 460, 461, 482, 483, 484, 462, 463, 464, 465, 466, 467, 468, 469, 470, 471, 472, 473, 474, 489] (by decide +kernel) (by decide +kernel)) (goodIn_sub (fun _ h => List.mem_append_right _ h) (by decide +kernel))
set_option maxRecDepth 20000 in
theorem gL_law_X6_undo : GoodIn wsL_law (wsV RL 109 RX6 yX6_undo wsX6_undo) := goodIn_app (goodIn_of _ (by decide +kernel)) ggL_law_X6_undo
