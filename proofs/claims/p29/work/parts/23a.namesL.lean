theorem inlX0 : ∀ w ∈ wsX00, w ∈ wsL_law := fun _ h => List.mem_append_left _ (List.mem_append_left _ (List.mem_append_left _ (List.mem_append_left _ (List.mem_append_left _ (List.mem_append_left _ (List.mem_append_left _ (List.mem_append_right _ h)))))))
theorem inX0 : ∀ w ∈ wsX00, w ∈ lw_tbl := fun w h => wsL_law_in w (inlX0 w h)
theorem inlX1 : ∀ w ∈ wsX10, w ∈ wsL_law := fun _ h => List.mem_append_left _ (List.mem_append_left _ (List.mem_append_left _ (List.mem_append_left _ (List.mem_append_left _ (List.mem_append_left _ (List.mem_append_left _ (List.mem_append_left _ (List.mem_append_left _ (List.mem_append_right _ h)))))))))
theorem inX1 : ∀ w ∈ wsX10, w ∈ lw_tbl := fun w h => wsL_law_in w (inlX1 w h)
theorem inlX2 : ∀ w ∈ wsX20, w ∈ wsL_law := fun _ h => List.mem_append_left _ (List.mem_append_left _ (List.mem_append_left _ (List.mem_append_left _ (List.mem_append_left _ (List.mem_append_right _ h)))))
theorem inX2 : ∀ w ∈ wsX20, w ∈ lw_tbl := fun w h => wsL_law_in w (inlX2 w h)
theorem inlX3 : ∀ w ∈ wsX30, w ∈ wsL_law := fun _ h => List.mem_append_left _ (List.mem_append_left _ (List.mem_append_left _ (List.mem_append_left _ (List.mem_append_left _ (List.mem_append_left _ (List.mem_append_right _ h))))))
theorem inX3 : ∀ w ∈ wsX30, w ∈ lw_tbl := fun w h => wsL_law_in w (inlX3 w h)
theorem inlX4 : ∀ w ∈ wsX40, w ∈ wsL_law := fun _ h => List.mem_append_left _ (List.mem_append_left _ (List.mem_append_left _ (List.mem_append_left _ (List.mem_append_right _ h))))
theorem inX4 : ∀ w ∈ wsX40, w ∈ lw_tbl := fun w h => wsL_law_in w (inlX4 w h)
theorem inlX5 : ∀ w ∈ wsX50, w ∈ wsL_law := fun _ h => List.mem_append_left _ (List.mem_append_left _ (List.mem_append_left _ (List.mem_append_left _ (List.mem_append_left _ (List.mem_append_left _ (List.mem_append_left _ (List.mem_append_left _ (List.mem_append_right _ h))))))))
theorem inX5 : ∀ w ∈ wsX50, w ∈ lw_tbl := fun w h => wsL_law_in w (inlX5 w h)
theorem inlX6 : ∀ w ∈ wsX60, w ∈ wsL_law := fun _ h => List.mem_append_left _ (List.mem_append_left _ (List.mem_append_left _ (List.mem_append_left _ (List.mem_append_left _ (List.mem_append_left _ (List.mem_append_left _ (List.mem_append_left _ (List.mem_append_left _ (List.mem_append_left _ (List.mem_append_right _ h))))))))))
theorem inX6 : ∀ w ∈ wsX60, w ∈ lw_tbl := fun w h => wsL_law_in w (inlX6 w h)
theorem inX7 : ∀ w ∈ wsX70, w ∈ lw_tbl := by decide +kernel
theorem inJ9 : ∀ w ∈ wsJ90, w ∈ lw_tbl := by decide +kernel
theorem inJ0 : ∀ w ∈ wsJ00, w ∈ lw_tbl := by decide +kernel
set_option maxRecDepth 20000 in
theorem ggL_isStep_X6_value : GoodIn wsL_isStep wsX6_value := goodIn_ca (goodIn_r _ [6, 7, 8, 9, 10, 11, 5, 12, 13, 14, 15, 16, 17, 18, 19, 20, 21, 22, 23, 24, 25, 26, 27, 28, 29, 259, 260, 261, 262, 263, 264, 265, 266, 267, 268, 269, 270, 271, 272, 273, 274, 275, 276, 277, 278, 279] (by decide +kernel) (by decide +kernel)) (goodIn_sub (fun _ h => List.mem_cons_of_mem _ (List.mem_append_left _ (List.mem_append_right _ h))) (by decide +kernel))
set_option maxRecDepth 20000 in
theorem gL_isStep_X6_value : GoodIn wsL_isStep (wsV RL 9 RX6 yX6_value wsX6_value) := goodIn_app (goodIn_of _ (by decide +kernel)) ggL_isStep_X6_value
set_option maxRecDepth 20000 in
theorem ggL_isStep_L_up : GoodIn wsL_isStep wsL_up := goodIn_r _ [33, 34] (by decide +kernel) (by decide +kernel)
set_option maxRecDepth 20000 in
theorem gL_isStep_L_up : GoodIn wsL_isStep (va_wsS RL 15 yL_up wsL_up) := goodIn_app (goodIn_of _ (by decide +kernel)) ggL_isStep_L_up
set_option maxRecDepth 20000 in
theorem ggL_isStep_X6_setHeight : GoodIn wsL_isStep wsX6_setHeight := goodIn_ca (goodIn_ca (goodIn_r _ [38, 39, 40, 7, 8, 9, 41, 42, 43, 44, 16, 45, 18, 19, 10, 11, 5, 12, 46, 47, 48, 49, 50, 51, 52, 53, 54, 55, 56, 57, 58, 59, 60, 61, 20, 21, 22, 23, 62, 63, 64, 65, 66, 67, 68, 69, 70, 71, 27, 72, 29, 73, 25, 26, 28, 74, 75, 76, 77, 78, 79, 80, 81, 82, 259, 260, 261, 262, 263, 264, 265, 266, 267, 268, 269, 270, 271, 272, 273, 274, 275, 276, 277, 278, 280, 281, 282, 279] (by decide +kernel) (by decide +kernel)) (goodIn_sub (fun _ h => List.mem_cons_of_mem _ (List.mem_append_right _ h)) (by decide +kernel))) (goodIn_sub (fun _ h => List.mem_cons_of_mem _ (List.mem_append_left _ (List.mem_append_right _ h))) (by decide +kernel))
set_option maxRecDepth 20000 in
theorem gL_isStep_X6_setHeight : GoodIn wsL_isStep (wsV RL 21 RX6 yX6_setHeight wsX6_setHeight) := goodIn_app (goodIn_of _ (by decide +kernel)) ggL_isStep_X6_setHeight
set_option maxRecDepth 20000 in
theorem ggL_isStep_X6_setTuft : GoodIn wsL_isStep wsX6_setTuft := goodIn_ca (goodIn_ca (goodIn_r _ [86, 39, 40, 7, 8, 9, 41, 42, 43, 44, 16, 45, 18, 19, 10, 11, 5, 12, 46, 47, 48, 49, 50, 51, 52, 53, 54, 55, 56, 57, 58, 59, 60, 61, 20, 21, 22, 23, 62, 63, 64, 65, 66, 67, 68, 69, 70, 71, 27, 72, 29, 73, 25, 26, 28, 74, 87, 80, 81, 82, 259, 260, 261, 262, 263, 264, 265, 266, 267, 268, 269, 270, 271, 272, 273, 274, 275, 276, 277, 278, 280, 281, 282, 279] (by decide +kernel) (by decide +kernel)) (goodIn_sub (fun _ h => List.mem_cons_of_mem _ (List.mem_append_right _ h)) (by decide +kernel))) (goodIn_sub (fun _ h => List.mem_cons_of_mem _ (List.mem_append_left _ (List.mem_append_right _ h))) (by decide +kernel))
set_option maxRecDepth 20000 in
theorem gL_isStep_X6_setTuft : GoodIn wsL_isStep (wsV RL 24 RX6 yX6_setTuft wsX6_setTuft) := goodIn_app (goodIn_of _ (by decide +kernel)) ggL_isStep_X6_setTuft
set_option maxRecDepth 20000 in
theorem ggL_isStep_X6_setFence : GoodIn wsL_isStep wsX6_setFence := goodIn_ca (goodIn_ca (goodIn_r _ [91, 39, 40, 7, 8, 9, 41, 42, 43, 44, 16, 45, 18, 19, 10, 11, 5, 12, 46, 47, 48, 49, 50, 51, 52, 53, 54, 55, 56, 57, 58, 59, 60, 61, 20, 21, 22, 23, 62, 63, 64, 65, 66, 67, 68, 69, 70, 71, 27, 72, 29, 73, 25, 26, 28, 92, 93, 94, 95, 96, 97, 98, 99, 24, 100, 101, 102, 103, 79, 80, 81, 82, 259, 260, 261, 262, 263, 264, 265, 266, 267, 268, 269, 270, 271, 272, 273, 274, 275, 276, 277, 278, 280, 281, 282, 279] (by decide +kernel) (by decide +kernel)) (goodIn_sub (fun _ h => List.mem_cons_of_mem _ (List.mem_append_right _ h)) (by decide +kernel))) (goodIn_sub (fun _ h => List.mem_cons_of_mem _ (List.mem_append_left _ (List.mem_append_right _ h))) (by decide +kernel))
set_option maxRecDepth 20000 in
theorem gL_isStep_X6_setFence : GoodIn wsL_isStep (wsV RL 27 RX6 yX6_setFence wsX6_setFence) := goodIn_app (goodIn_of _ (by decide +kernel)) ggL_isStep_X6_setFence
set_option maxRecDepth 20000 in
theorem ggL_isStep_X6_set : GoodIn wsL_isStep wsX6_set := goodIn_ca (goodIn_r _ [107, 7, 8, 41, 9, 108, 109, 5, 110, 10, 11, 12, 46, 47, 48, 49, 50, 51, 52, 53, 54, 55, 56, 57, 58, 59, 60, 16, 61, 18, 19, 20, 21, 22, 23, 62, 63, 64, 65, 66, 67, 68, 69, 70, 71, 27, 72, 29, 73, 25, 26, 28, 74, 87, 80, 81, 82, 259, 260, 261, 262, 263, 264, 265, 266, 267, 268, 269, 270, 271, 272, 273, 274, 275, 276, 277, 278, 280, 281, 282, 279] (by decide +kernel) (by decide +kernel)) (goodIn_sub (fun _ h => List.mem_cons_of_mem _ (List.mem_append_left _ (List.mem_append_right _ h))) (by decide +kernel))
set_option maxRecDepth 20000 in
theorem gL_isStep_X6_set : GoodIn wsL_isStep (wsV RL 30 RX6 yX6_set wsX6_set) := goodIn_app (goodIn_of _ (by decide +kernel)) ggL_isStep_X6_set
set_option maxRecDepth 20000 in
theorem ggL_isStep_X6_setWind : GoodIn wsL_isStep wsX6_setWind := goodIn_ca (goodIn_r _ [114, 7, 8, 115, 41, 9, 10, 11, 5, 12, 46, 47, 48, 49, 50, 51, 52, 53, 54, 55, 56, 57, 58, 59, 60, 16, 61, 18, 19, 20, 21, 22, 23, 62, 63, 64, 65, 66, 67, 68, 69, 70, 71, 27, 72, 29, 73, 25, 26, 28, 259, 260, 261, 262, 263, 264, 265, 266, 267, 268, 269, 270, 271, 272, 273, 274, 275, 276, 277, 278, 280, 281, 282, 279] (by decide +kernel) (by decide +kernel)) (goodIn_sub (fun _ h => List.mem_cons_of_mem _ (List.mem_append_left _ (List.mem_append_right _ h))) (by decide +kernel))
set_option maxRecDepth 20000 in
theorem gL_isStep_X6_setWind : GoodIn wsL_isStep (wsV RL 34 RX6 yX6_setWind wsX6_setWind) := goodIn_app (goodIn_of _ (by decide +kernel)) ggL_isStep_X6_setWind
set_option maxRecDepth 20000 in
theorem ggL_isStep_X6_season : GoodIn wsL_isStep wsX6_season := goodIn_r _ [119, 41, 9, 46, 47, 48, 49, 50, 51, 52, 53, 54, 55, 56, 57, 58, 59, 60, 16, 61, 18, 19, 20, 21, 22, 23, 62, 63, 64, 65, 66, 67, 68, 69, 70, 71, 27, 72, 29, 73, 25, 26, 28, 120, 121, 122, 123, 124, 43, 44, 45, 24, 125, 126, 127, 128, 129, 130, 131, 132, 133, 134, 135, 136, 137, 138, 139, 79, 80, 81, 82, 259, 260, 261, 262, 263, 264, 265, 280, 281, 282, 266, 267, 268, 269, 270, 271, 272, 273, 274, 275, 276, 277, 278, 279] (by decide +kernel) (by decide +kernel)
set_option maxRecDepth 20000 in
theorem gL_isStep_X6_season : GoodIn wsL_isStep (wsV RL 37 RX6 yX6_season wsX6_season) := goodIn_app (goodIn_of _ (by decide +kernel)) ggL_isStep_X6_season
set_option maxRecDepth 20000 in
theorem ggL_isStep_X6_slabs : GoodIn wsL_isStep wsX6_slabs := goodIn_r _ [143, 9, 144, 145, 146, 16, 147, 62, 124, 43, 44, 45, 18, 19, 24, 25, 26, 27, 28, 29, 259, 260, 261, 262, 263, 264, 265, 266, 267, 268, 269, 270, 271, 272, 273, 274, 275, 276, 277, 278, 279] (by decide +kernel) (by decide +kernel)
set_option maxRecDepth 20000 in
theorem gL_isStep_X6_slabs : GoodIn wsL_isStep (wsV RL 41 RX6 yX6_slabs wsX6_slabs) := goodIn_app (goodIn_of _ (by decide +kernel)) ggL_isStep_X6_slabs
set_option maxRecDepth 20000 in
theorem ggL_isStep_L_trapped : GoodIn wsL_isStep wsL_trapped := goodIn_ca (goodIn_ca (goodIn_r _ [150, 2, 3, 4, 5, 6, 7, 8, 9, 10, 11, 12, 13, 14, 15, 16, 17, 18, 19, 20, 21, 22, 23, 24, 25, 26, 27, 28, 29, 151, 152, 153, 154, 39, 40, 42, 43, 44, 45, 155, 156, 157, 158, 62, 64, 65, 159, 93, 94, 95, 66, 96, 97, 98, 99, 160, 161, 162, 163, 164, 165, 166, 167, 168, 169, 170, 171, 136, 137, 138, 139, 63, 259, 260, 261, 262, 263, 264, 265, 266, 267, 268, 269, 270, 271, 272, 273, 274, 275, 276, 277, 278, 279] (by decide +kernel) (by decide +kernel)) (goodIn_sub (fun _ h => List.mem_cons_of_mem _ (List.mem_append_left _ (List.mem_append_right _ h))) (by decide +kernel))) (goodIn_sub (fun _ h => List.mem_cons_of_mem _ (List.mem_append_right _ h)) (by decide +kernel))
set_option maxRecDepth 20000 in
theorem gL_isStep_L_trapped : GoodIn wsL_isStep (va_wsS RL 44 yL_trapped wsL_trapped) := goodIn_app (goodIn_of _ (by decide +kernel)) ggL_isStep_L_trapped
set_option maxRecDepth 20000 in
theorem ggL_isStep_X6_run : GoodIn wsL_isStep wsX6_run := goodIn_ca (goodIn_r _ [175, 7, 8, 41, 9, 176, 10, 11, 5, 12, 46, 47, 48, 49, 50, 51, 52, 53, 54, 55, 56, 57, 58, 59, 60, 16, 61, 18, 19, 20, 21, 22, 23, 62, 63, 64, 65, 66, 67, 68, 69, 70, 71, 27, 72, 29, 73, 25, 26, 28, 177, 178, 179, 180, 181, 182, 183, 43, 44, 45, 184, 185, 186, 187, 188, 189, 190, 191, 192, 193, 194, 195, 196, 197, 198, 97, 98, 99, 24, 199, 161, 162, 163, 164, 165, 166, 167, 168, 169, 170, 171, 200, 201, 202, 203, 204, 205, 206, 207, 208, 209, 210, 211, 212, 213, 214, 215, 216, 217, 218, 219, 220, 221, 222, 223, 224, 225, 226, 227, 228, 229, 230, 231, 232, 233, 234, 235, 236, 237, 238, 239, 240, 241, 242, 243, 244, 245, 246, 247, 248, 249, 250, 251, 252, 253, 254, 80, 81, 82, 259, 260, 261, 262, 263, 264, 265, 280, 281, 282, 266, 267, 268, 269, 270, 271, 272, 273, 274, 275, 276, 277, 278, 279, 283, 284] (by decide +kernel) (by decide +kernel)) (goodIn_sub (fun _ h => List.mem_cons_of_mem _ (List.mem_append_left _ (List.mem_append_right _ h))) (by decide +kernel))
set_option maxRecDepth 20000 in
theorem gL_isStep_X6_run : GoodIn wsL_isStep (wsV RL 48 RX6 yX6_run wsX6_run) := goodIn_app (goodIn_of _ (by decide +kernel)) ggL_isStep_X6_run
set_option maxRecDepth 20000 in
theorem ggL_isStep_X6_count : GoodIn wsL_isStep wsX6_count := goodIn_ca (goodIn_r _ [258, 7, 8, 9, 10, 11, 5, 12, 74, 25, 26, 27, 28, 29, 259, 260, 261, 262, 263, 264, 265, 266, 267, 268, 269, 270, 271, 272, 273, 274, 275, 276, 277, 278, 279] (by decide +kernel) (by decide +kernel)) (goodIn_sub (fun _ h => List.mem_cons_of_mem _ (List.mem_append_left _ (List.mem_append_right _ h))) (by decide +kernel))
set_option maxRecDepth 20000 in
theorem gL_isStep_X6_count : GoodIn wsL_isStep (wsV RL 51 RX6 yX6_count wsX6_count) := goodIn_app (goodIn_of _ (by decide +kernel)) ggL_isStep_X6_count
set_option maxRecDepth 20000 in
theorem ggL_trapped_X6_value : GoodIn wsL_trapped wsX6_value := goodIn_ca (goodIn_r _ [5, 6, 7, 8, 9, 10, 4, 11, 12, 13, 14, 15, 16, 17, 18, 19, 20, 21, 22, 23, 24, 25, 26, 27, 28, 72, 73, 74, 75, 76, 77, 78, 79, 80, 81, 82, 83, 84, 85, 86, 87, 88, 89, 90, 91, 92] (by decide +kernel) (by decide +kernel)) (goodIn_sub (fun _ h => List.mem_cons_of_mem _ (List.mem_append_left _ (List.mem_append_right _ h))) (by decide +kernel))
set_option maxRecDepth 20000 in
theorem gL_trapped_X6_value : GoodIn wsL_trapped (wsV RL 9 RX6 yX6_value wsX6_value) := goodIn_app (goodIn_of _ (by decide +kernel)) ggL_trapped_X6_value
set_option maxRecDepth 20000 in
theorem ggL_trapped_X6_cell : GoodIn wsL_trapped wsX6_cell := goodIn_ca (goodIn_ca (goodIn_r _ [32, 33, 34, 6, 7, 8, 35, 36, 37, 15, 38, 17, 18, 9, 10, 4, 11, 39, 40, 41, 42, 43, 44, 45, 23, 24, 25, 26, 27, 28, 46, 47, 48, 49, 50, 51, 52, 53, 54, 55, 56, 57, 58, 59, 60, 61, 62, 19, 63, 64, 65, 66, 67, 68, 69, 70, 71, 72, 73, 74, 75, 76, 77, 78, 79, 80, 81, 82, 83, 84, 85, 86, 87, 88, 89, 90, 91, 92] (by decide +kernel) (by decide +kernel)) (goodIn_sub (fun _ h => List.mem_cons_of_mem _ (List.mem_append_right _ h)) (by decide +kernel))) (goodIn_sub (fun _ h => List.mem_cons_of_mem _ (List.mem_append_left _ (List.mem_append_right _ h))) (by decide +kernel))
set_option maxRecDepth 20000 in
theorem gL_trapped_X6_cell : GoodIn wsL_trapped (wsV RL 54 RX6 yX6_cell wsX6_cell) := goodIn_app (goodIn_of _ (by decide +kernel)) ggL_trapped_X6_cell
set_option maxRecDepth 20000 in
theorem ggL_areAlike_X6_shadowHeight : GoodIn wsL_areAlike wsX6_shadowHeight := goodIn_r _ [5, 6, 7, 8, 9, 10, 11, 12, 13, 14, 15, 16, 17, 18, 19, 20, 21, 22, 23, 24, 25, 26, 27, 28, 29, 30, 31, 32, 33, 34, 35, 36, 37, 86, 87, 88, 89, 90, 91, 92, 93, 94, 95, 96, 97, 98, 99, 100, 101, 102, 103, 104, 105, 106] (by decide +kernel) (by decide +kernel)
set_option maxRecDepth 20000 in
theorem gL_areAlike_X6_shadowHeight : GoodIn wsL_areAlike (wsV RL 57 RX6 yX6_shadowHeight wsX6_shadowHeight) := goodIn_app (goodIn_of _ (by decide +kernel)) ggL_areAlike_X6_shadowHeight
set_option maxRecDepth 20000 in
theorem ggL_areAlike_X6_value : GoodIn wsL_areAlike wsX6_value := goodIn_ca (goodIn_r _ [41, 42, 43, 6, 44, 45, 4, 46, 47, 48, 49, 10, 50, 17, 18, 27, 51, 52, 53, 28, 29, 30, 31, 32, 33, 86, 87, 88, 89, 90, 91, 92, 93, 94, 95, 96, 97, 98, 99, 100, 101, 102, 103, 104, 105, 106] (by decide +kernel) (by decide +kernel)) (goodIn_sub (fun _ h => List.mem_cons_of_mem _ (List.mem_append_left _ (List.mem_append_right _ h))) (by decide +kernel))
set_option maxRecDepth 20000 in
theorem gL_areAlike_X6_value : GoodIn wsL_areAlike (wsV RL 9 RX6 yX6_value wsX6_value) := goodIn_app (goodIn_of _ (by decide +kernel)) ggL_areAlike_X6_value
set_option maxRecDepth 20000 in
theorem ggL_areAlike_X6_count : GoodIn wsL_areAlike wsX6_count := goodIn_ca (goodIn_r _ [57, 42, 43, 6, 44, 45, 4, 46, 58, 29, 30, 31, 32, 33, 86, 87, 88, 89, 90, 91, 92, 93, 94, 95, 96, 97, 98, 99, 100, 101, 102, 103, 104, 105, 106] (by decide +kernel) (by decide +kernel)) (goodIn_sub (fun _ h => List.mem_cons_of_mem _ (List.mem_append_left _ (List.mem_append_right _ h))) (by decide +kernel))
set_option maxRecDepth 20000 in
theorem gL_areAlike_X6_count : GoodIn wsL_areAlike (wsV RL 51 RX6 yX6_count wsX6_count) := goodIn_app (goodIn_of _ (by decide +kernel)) ggL_areAlike_X6_count
set_option maxRecDepth 20000 in
theorem ggL_areAlike_X6_cell : GoodIn wsL_areAlike wsX6_cell := goodIn_ca (goodIn_ca (goodIn_r _ [62, 63, 64, 42, 43, 6, 65, 14, 15, 10, 16, 17, 18, 44, 45, 4, 46, 66, 67, 68, 69, 12, 70, 71, 28, 29, 30, 31, 32, 33, 72, 73, 74, 75, 76, 77, 78, 79, 80, 19, 20, 21, 22, 23, 24, 25, 26, 27, 34, 35, 36, 37, 81, 82, 83, 84, 85, 86, 87, 88, 89, 90, 91, 92, 93, 94, 95, 96, 97, 98, 99, 100, 101, 102, 103, 104, 105, 106] (by decide +kernel) (by decide +kernel)) (goodIn_sub (fun _ h => List.mem_cons_of_mem _ (List.mem_append_right _ h)) (by decide +kernel))) (goodIn_sub (fun _ h => List.mem_cons_of_mem _ (List.mem_append_left _ (List.mem_append_right _ h))) (by decide +kernel))
set_option maxRecDepth 20000 in
theorem gL_areAlike_X6_cell : GoodIn wsL_areAlike (wsV RL 54 RX6 yX6_cell wsX6_cell) := goodIn_app (goodIn_of _ (by decide +kernel)) ggL_areAlike_X6_cell
set_option maxRecDepth 20000 in
theorem ggL_isSound_X6_count : GoodIn wsL_isSound wsX6_count := goodIn_ca (goodIn_r _ [5, 6, 7, 8, 9, 10, 4, 11, 12, 13, 14, 15, 16, 17, 164, 165, 166, 167, 168, 169, 170, 171, 172, 173, 174, 175, 176, 177, 178, 179, 180, 181, 182, 183, 184] (by decide +kernel) (by decide +kernel)) (goodIn_sub (fun _ h => List.mem_cons_of_mem _ (List.mem_append_left _ (List.mem_append_right _ h))) (by decide +kernel))
set_option maxRecDepth 20000 in
theorem gL_isSound_X6_count : GoodIn wsL_isSound (wsV RL 51 RX6 yX6_count wsX6_count) := goodIn_app (goodIn_of _ (by decide +kernel)) ggL_isSound_X6_count
set_option maxRecDepth 20000 in
theorem ggL_isSound_X6_relief : GoodIn wsL_isSound wsX6_relief := goodIn_ca (goodIn_r _ [21, 6, 7, 8, 22, 23, 24, 25, 26, 27, 28, 29, 30, 31, 32, 33, 34, 13, 14, 15, 16, 17, 12, 35, 36, 37, 38, 39, 40, 41, 42, 43, 44, 45, 46, 47, 48, 49, 50, 51, 52, 53, 164, 165, 166, 167, 168, 169, 170, 171, 172, 173, 174, 175, 176, 177, 178, 179, 180, 181, 182, 183, 184] (by decide +kernel) (by decide +kernel)) (goodIn_sub (fun _ h => List.mem_cons_of_mem _ (List.mem_append_left _ (List.mem_append_right _ h))) (by decide +kernel))
set_option maxRecDepth 20000 in
theorem gL_isSound_X6_relief : GoodIn wsL_isSound (wsV RL 61 RX6 yX6_relief wsX6_relief) := goodIn_app (goodIn_of _ (by decide +kernel)) ggL_isSound_X6_relief
set_option maxRecDepth 20000 in
theorem ggL_isSound_X6_cell : GoodIn wsL_isSound wsX6_cell := goodIn_ca (goodIn_ca (goodIn_r _ [57, 58, 59, 6, 7, 8, 60, 29, 30, 25, 31, 32, 33, 9, 10, 4, 11, 61, 62, 63, 64, 27, 65, 66, 34, 13, 14, 15, 16, 17, 67, 68, 69, 70, 71, 72, 73, 74, 75, 76, 77, 78, 79, 80, 81, 82, 83, 84, 46, 47, 48, 49, 85, 86, 87, 88, 89, 164, 165, 166, 167, 168, 169, 170, 171, 172, 173, 174, 175, 176, 177, 178, 179, 180, 181, 182, 183, 184] (by decide +kernel) (by decide +kernel)) (goodIn_sub (fun _ h => List.mem_cons_of_mem _ (List.mem_append_right _ h)) (by decide +kernel))) (goodIn_sub (fun _ h => List.mem_cons_of_mem _ (List.mem_append_left _ (List.mem_append_right _ h))) (by decide +kernel))
set_option maxRecDepth 20000 in
theorem gL_isSound_X6_cell : GoodIn wsL_isSound (wsV RL 54 RX6 yX6_cell wsX6_cell) := goodIn_app (goodIn_of _ (by decide +kernel)) ggL_isSound_X6_cell
set_option maxRecDepth 20000 in
theorem ggL_isSound_X6_value : GoodIn wsL_isSound wsX6_value := goodIn_ca (goodIn_r _ [93, 6, 7, 8, 9, 10, 4, 11, 94, 95, 96, 25, 97, 32, 33, 84, 98, 99, 100, 34, 13, 14, 15, 16, 17, 164, 165, 166, 167, 168, 169, 170, 171, 172, 173, 174, 175, 176, 177, 178, 179, 180, 181, 182, 183, 184] (by decide +kernel) (by decide +kernel)) (goodIn_sub (fun _ h => List.mem_cons_of_mem _ (List.mem_append_left _ (List.mem_append_right _ h))) (by decide +kernel))
set_option maxRecDepth 20000 in
theorem gL_isSound_X6_value : GoodIn wsL_isSound (wsV RL 9 RX6 yX6_value wsX6_value) := goodIn_app (goodIn_of _ (by decide +kernel)) ggL_isSound_X6_value
set_option maxRecDepth 20000 in
theorem ggL_isSound_X6_duneOf : GoodIn wsL_isSound wsX6_duneOf := goodIn_ca (goodIn_ca (goodIn_r _ [104, 58, 59, 6, 7, 8, 105, 60, 29, 30, 25, 31, 32, 33, 9, 10, 4, 11, 106, 107, 108, 109, 110, 111, 112, 113, 114, 115, 116, 117, 15, 118, 17, 119, 120, 13, 14, 16, 121, 122, 123, 124, 125, 126, 127, 128, 129, 130, 131, 132, 133, 134, 47, 48, 49, 135, 136, 137, 138, 164, 165, 166, 167, 168, 169, 170, 171, 172, 173, 174, 175, 176, 177, 178, 179, 180, 181, 182, 183, 185, 186, 187, 188, 189, 184] (by decide +kernel) (by decide +kernel)) (goodIn_sub (fun _ h => List.mem_cons_of_mem _ (List.mem_append_right _ h)) (by decide +kernel))) (goodIn_sub (fun _ h => List.mem_cons_of_mem _ (List.mem_append_left _ (List.mem_append_right _ h))) (by decide +kernel))
set_option maxRecDepth 20000 in
theorem gL_isSound_X6_duneOf : GoodIn wsL_isSound (wsV RL 64 RX6 yX6_duneOf wsX6_duneOf) := goodIn_app (goodIn_of _ (by decide +kernel)) ggL_isSound_X6_duneOf
set_option maxRecDepth 20000 in
theorem ggL_isSound_X6_latest : GoodIn wsL_isSound wsX6_latest := goodIn_ca (goodIn_r _ [142, 6, 7, 8, 9, 10, 4, 11, 12, 13, 14, 15, 16, 17, 164, 165, 166, 167, 168, 169, 170, 171, 172, 173, 174, 175, 176, 177, 178, 179, 180, 181, 182, 183, 184] (by decide +kernel) (by decide +kernel)) (goodIn_sub (fun _ h => List.mem_cons_of_mem _ (List.mem_append_left _ (List.mem_append_right _ h))) (by decide +kernel))
set_option maxRecDepth 20000 in
theorem gL_isSound_X6_latest : GoodIn wsL_isSound (wsV RL 67 RX6 yX6_latest wsX6_latest) := goodIn_app (goodIn_of _ (by decide +kernel)) ggL_isSound_X6_latest
set_option maxRecDepth 20000 in
theorem ggL_isSound_X6_slabs : GoodIn wsL_isSound wsX6_slabs := goodIn_r _ [146, 8, 147, 148, 149, 25, 150, 27, 28, 29, 30, 31, 32, 33, 34, 13, 14, 15, 16, 17, 164, 165, 166, 167, 168, 169, 170, 171, 172, 173, 174, 175, 176, 177, 178, 179, 180, 181, 182, 183, 184] (by decide +kernel) (by decide +kernel)
set_option maxRecDepth 20000 in
theorem gL_isSound_X6_slabs : GoodIn wsL_isSound (wsV RL 41 RX6 yX6_slabs wsX6_slabs) := goodIn_app (goodIn_of _ (by decide +kernel)) ggL_isSound_X6_slabs
set_option maxRecDepth 20000 in
theorem ggL_isSound_X6_dunes : GoodIn wsL_isSound wsX6_dunes := goodIn_ca (goodIn_r _ [154, 6, 7, 105, 8, 9, 10, 4, 11, 106, 107, 108, 109, 110, 111, 112, 113, 114, 115, 116, 117, 15, 118, 17, 119, 29, 30, 25, 31, 32, 33, 120, 13, 14, 16, 121, 122, 123, 124, 125, 126, 127, 128, 129, 130, 131, 132, 133, 134, 47, 48, 49, 164, 165, 166, 167, 168, 169, 170, 185, 186, 187, 188, 189, 171, 172, 173, 174, 175, 176, 177, 178, 179, 180, 181, 182, 183, 184] (by decide +kernel) (by decide +kernel)) (goodIn_sub (fun _ h => List.mem_cons_of_mem _ (List.mem_append_left _ (List.mem_append_right _ h))) (by decide +kernel))
set_option maxRecDepth 20000 in
theorem gL_isSound_X6_dunes : GoodIn wsL_isSound (wsV RL 70 RX6 yX6_dunes wsX6_dunes) := goodIn_app (goodIn_of _ (by decide +kernel)) ggL_isSound_X6_dunes
set_option maxRecDepth 20000 in
theorem ggL_isSound_X6_greatestDune : GoodIn wsL_isSound wsX6_greatestDune := goodIn_ca (goodIn_r _ [158, 6, 7, 105, 8, 9, 10, 4, 11, 106, 107, 108, 109, 110, 111, 112, 113, 114, 115, 116, 117, 15, 118, 17, 119, 29, 30, 25, 31, 32, 33, 120, 13, 14, 16, 121, 122, 123, 124, 125, 126, 127, 128, 129, 130, 131, 132, 133, 134, 47, 48, 49, 159, 160, 161, 162, 163, 44, 41, 45, 164, 165, 166, 167, 168, 169, 170, 185, 186, 187, 188, 189, 171, 172, 173, 174, 175, 176, 177, 178, 179, 180, 181, 182, 183, 184] (by decide +kernel) (by decide +kernel)) (goodIn_sub (fun _ h => List.mem_cons_of_mem _ (List.mem_append_left _ (List.mem_append_right _ h))) (by decide +kernel))
set_option maxRecDepth 20000 in
theorem gL_isSound_X6_greatestDune : GoodIn wsL_isSound (wsV RL 73 RX6 yX6_greatestDune wsX6_greatestDune) := goodIn_app (goodIn_of _ (by decide +kernel)) ggL_isSound_X6_greatestDune
