theorem inlX0 : ∀ w ∈ wsX00, w ∈ wsL_law := fun _ h => List.mem_append_left _ (List.mem_append_left _ (List.mem_append_left _ (List.mem_append_left _ (List.mem_append_left _ (List.mem_append_left _ (List.mem_append_left _ (List.mem_append_right _ h)))))))
theorem inX0 : ∀ w ∈ wsX00, w ∈ lw_tbl := fun w h => wsL_law_in w (inlX0 w h)
theorem inlX1 : ∀ w ∈ wsX10, w ∈ wsL_law := fun _ h => List.mem_append_left _ (List.mem_append_left _ (List.mem_append_left _ (List.mem_append_left _ (List.mem_append_left _ (List.mem_append_left _ (List.mem_append_left _ (List.mem_append_left _ (List.mem_append_left _ (List.mem_append_right _ h)))))))))
theorem inX1 : ∀ w ∈ wsX10, w ∈ lw_tbl := fun w h => wsL_law_in w (inlX1 w h)
theorem inlX2 : ∀ w ∈ wsX20, w ∈ wsL_law := fun _ h => List.mem_append_left _ (List.mem_append_left _ (List.mem_append_left _ (List.mem_append_left _ (List.mem_append_left _ (List.mem_append_right _ h)))))
theorem inX2 : ∀ w ∈ wsX20, w ∈ lw_tbl := fun w h => wsL_law_in w (inlX2 w h)
theorem inlX3 : ∀ w ∈ wsX30, w ∈ wsL_law := fun _ h => List.mem_append_left _ (List.mem_append_left _ (List.mem_append_left _ (List.mem_append_left _ (List.mem_append_left _ (List.mem_append_left _ (List.mem_append_right _ h))))))
theorem inX3 : ∀ w ∈ wsX30, w ∈ lw_tbl := fun w h => wsL_law_in w (inlX3 w h)
theorem inlX4 : ∀ w ∈ wsX40, w ∈ wsL_law := fun _ h => List.mem_append_left _ (List.mem_append_left _ (List.mem_append_left _ (List.mem_append_left _ (List.mem_append_right _ h))))
theorem inX4 : ∀ w ∈ wsX40, w ∈ lw_tbl := fun w h => wsL_law_in w (inlX4 w h)
theorem inlX5 : ∀ w ∈ wsX50, w ∈ wsL_law := fun _ h => List.mem_append_left _ (List.mem_append_left _ (List.mem_append_left _ (List.mem_append_left _ (List.mem_append_left _ (List.mem_append_left _ (List.mem_append_left _ (List.mem_append_left _ (List.mem_append_right _ h))))))))
theorem inX5 : ∀ w ∈ wsX50, w ∈ lw_tbl := fun w h => wsL_law_in w (inlX5 w h)
theorem inlX6 : ∀ w ∈ wsX60, w ∈ wsL_law := fun _ h => List.mem_append_left _ (List.mem_append_left _ (List.mem_append_left _ (List.mem_append_left _ (List.mem_append_left _ (List.mem_append_left _ (List.mem_append_left _ (List.mem_append_left _ (List.mem_append_left _ (List.mem_append_left _ (List.mem_append_left _ (List.mem_append_right _ h)))))))))))
theorem inX6 : ∀ w ∈ wsX60, w ∈ lw_tbl := fun w h => wsL_law_in w (inlX6 w h)
theorem inlX7 : ∀ w ∈ wsX70, w ∈ wsL_law := fun _ h => List.mem_append_left _ (List.mem_append_left _ (List.mem_append_left _ (List.mem_append_left _ (List.mem_append_left _ (List.mem_append_left _ (List.mem_append_left _ (List.mem_append_left _ (List.mem_append_left _ (List.mem_append_left _ (List.mem_append_right _ h))))))))))
theorem inX7 : ∀ w ∈ wsX70, w ∈ lw_tbl := fun w h => wsL_law_in w (inlX7 w h)
theorem inJ9 : ∀ w ∈ wsJ90, w ∈ lw_tbl := by decide +kernel
theorem inJ0 : ∀ w ∈ wsJ00, w ∈ lw_tbl := by decide +kernel
set_option maxRecDepth 20000 in
theorem ggL_begin_X6_begin : GoodIn wsL_begin wsX6_begin := goodIn_ca (goodIn_r _ [6, 7, 8, 9, 10, 11, 12, 5, 13, 14, 15, 16, 17, 18, 19, 20, 21, 22, 23, 24, 25, 26, 27, 28, 29, 30, 31, 32, 33, 34, 35, 36, 37, 38, 39, 40, 41, 42, 43, 44, 45, 46, 47, 48, 49, 50, 51, 52, 53, 54, 55, 56, 57, 58, 59, 60, 61, 62, 63, 64, 65, 66, 67, 68, 69, 70, 71, 72, 73, 74, 75, 76, 77, 78, 79, 80, 81, 82, 83, 84, 85, 86, 87, 88, 89, 90, 91, 92, 93, 94, 95, 96, 97] (by decide +kernel) (by decide +kernel)) (goodIn_sub (fun _ h => List.mem_cons_of_mem _ (List.mem_append_right _ h)) (by decide +kernel))
set_option maxRecDepth 20000 in
theorem gL_begin_X6_begin : GoodIn wsL_begin (wsV RL 7 RX6 yX6_begin wsX6_begin) := goodIn_app (goodIn_of _ (by decide +kernel)) ggL_begin_X6_begin
theorem dL_begin_0 : decode cL_begin 0 = .ok (.aload 4, 2) := by decide +kernel
theorem dL_begin_2 : decode cL_begin 2 = .ok (.iconst 0, 1) := by decide +kernel
theorem dL_begin_3 : decode cL_begin 3 = .ok (.aload_n 0, 1) := by decide +kernel
theorem dL_begin_4 : decode cL_begin 4 = .ok (.iload_n 1, 1) := by decide +kernel
theorem dL_begin_5 : decode cL_begin 5 = .ok (.iload_n 2, 1) := by decide +kernel
theorem dL_begin_6 : decode cL_begin 6 = .ok (.iload_n 3, 1) := by decide +kernel
theorem dL_begin_7 : decode cL_begin 7 = .ok (.invokevirtual 7, 3) := by decide +kernel
theorem dL_begin_10 : decode cL_begin 10 = .ok (.i2l, 1) := by decide +kernel
theorem dL_begin_11 : decode cL_begin 11 = .ok (.lastore, 1) := by decide +kernel
theorem dL_begin_12 : decode cL_begin 12 = .ok (.goto 7, 3) := by decide +kernel
theorem dL_begin_15 : decode cL_begin 15 = .ok (.astore 5, 2) := by decide +kernel
theorem dL_begin_17 : decode cL_begin 17 = .ok (.iconst 1, 1) := by decide +kernel
theorem dL_begin_18 : decode cL_begin 18 = .ok (.ireturn, 1) := by decide +kernel
theorem dL_begin_19 : decode cL_begin 19 = .ok (.iconst 0, 1) := by decide +kernel
theorem dL_begin_20 : decode cL_begin 20 = .ok (.ireturn, 1) := by decide +kernel
set_option maxRecDepth 20000 in
theorem ggL_setHeight_X6_setHeight : GoodIn wsL_setHeight wsX6_setHeight := goodIn_ca (goodIn_ca (goodIn_r _ [7, 8, 9, 10, 11, 12, 13, 14, 15, 16, 17, 18, 19, 20, 21, 22, 6, 23, 24, 25, 26, 27, 28, 29, 30, 31, 32, 33, 34, 35, 36, 37, 38, 39, 40, 41, 42, 43, 44, 45, 46, 47, 48, 49, 50, 51, 52, 53, 54, 55, 56, 57, 58, 59, 60, 61, 62, 63, 64, 65, 66, 67, 68, 69, 70, 71, 72, 73, 74, 75, 76, 77, 78, 79, 80, 81, 82, 83, 84, 85, 86, 87, 88, 89, 90, 91, 92, 93] (by decide +kernel) (by decide +kernel)) (goodIn_sub (fun _ h => List.mem_cons_of_mem _ (List.mem_append_left _ (List.mem_append_right _ h))) (by decide +kernel))) (goodIn_sub (fun _ h => List.mem_cons_of_mem _ (List.mem_append_right _ h)) (by decide +kernel))
set_option maxRecDepth 20000 in
theorem gL_setHeight_X6_setHeight : GoodIn wsL_setHeight (wsV RL 15 RX6 yX6_setHeight wsX6_setHeight) := goodIn_app (goodIn_of _ (by decide +kernel)) ggL_setHeight_X6_setHeight
theorem dL_setHeight_0 : decode cL_setHeight 0 = .ok (.aload_n 3, 1) := by decide +kernel
theorem dL_setHeight_1 : decode cL_setHeight 1 = .ok (.iconst 0, 1) := by decide +kernel
theorem dL_setHeight_2 : decode cL_setHeight 2 = .ok (.aload_n 0, 1) := by decide +kernel
theorem dL_setHeight_3 : decode cL_setHeight 3 = .ok (.iload_n 1, 1) := by decide +kernel
theorem dL_setHeight_4 : decode cL_setHeight 4 = .ok (.iload_n 2, 1) := by decide +kernel
theorem dL_setHeight_5 : decode cL_setHeight 5 = .ok (.invokevirtual 15, 3) := by decide +kernel
theorem dL_setHeight_8 : decode cL_setHeight 8 = .ok (.i2l, 1) := by decide +kernel
theorem dL_setHeight_9 : decode cL_setHeight 9 = .ok (.lastore, 1) := by decide +kernel
theorem dL_setHeight_10 : decode cL_setHeight 10 = .ok (.goto 11, 3) := by decide +kernel
theorem dL_setHeight_13 : decode cL_setHeight 13 = .ok (.astore 4, 2) := by decide +kernel
theorem dL_setHeight_15 : decode cL_setHeight 15 = .ok (.iconst 1, 1) := by decide +kernel
theorem dL_setHeight_16 : decode cL_setHeight 16 = .ok (.ireturn, 1) := by decide +kernel
theorem dL_setHeight_17 : decode cL_setHeight 17 = .ok (.astore 4, 2) := by decide +kernel
theorem dL_setHeight_19 : decode cL_setHeight 19 = .ok (.iconst 2, 1) := by decide +kernel
theorem dL_setHeight_20 : decode cL_setHeight 20 = .ok (.ireturn, 1) := by decide +kernel
theorem dL_setHeight_21 : decode cL_setHeight 21 = .ok (.iconst 0, 1) := by decide +kernel
theorem dL_setHeight_22 : decode cL_setHeight 22 = .ok (.ireturn, 1) := by decide +kernel
set_option maxRecDepth 20000 in
theorem ggL_setTuft_X6_setTuft : GoodIn wsL_setTuft wsX6_setTuft := goodIn_ca (goodIn_ca (goodIn_r _ [7, 8, 9, 10, 11, 12, 13, 14, 15, 16, 17, 18, 19, 20, 21, 22, 6, 23, 24, 25, 26, 27, 28, 29, 30, 31, 32, 33, 34, 35, 36, 37, 38, 39, 40, 41, 42, 43, 44, 45, 46, 47, 48, 49, 50, 51, 52, 53, 54, 55, 56, 57, 58, 59, 60, 61, 62, 63, 64, 65, 66, 67, 68, 69, 70, 71, 72, 73, 74, 75, 76, 77, 78, 79, 80, 81, 82, 83, 84, 85, 86, 87, 88, 89] (by decide +kernel) (by decide +kernel)) (goodIn_sub (fun _ h => List.mem_cons_of_mem _ (List.mem_append_left _ (List.mem_append_right _ h))) (by decide +kernel))) (goodIn_sub (fun _ h => List.mem_cons_of_mem _ (List.mem_append_right _ h)) (by decide +kernel))
set_option maxRecDepth 20000 in
theorem gL_setTuft_X6_setTuft : GoodIn wsL_setTuft (wsV RL 21 RX6 yX6_setTuft wsX6_setTuft) := goodIn_app (goodIn_of _ (by decide +kernel)) ggL_setTuft_X6_setTuft
theorem dL_setTuft_0 : decode cL_setTuft 0 = .ok (.aload_n 3, 1) := by decide +kernel
theorem dL_setTuft_1 : decode cL_setTuft 1 = .ok (.iconst 0, 1) := by decide +kernel
theorem dL_setTuft_2 : decode cL_setTuft 2 = .ok (.aload_n 0, 1) := by decide +kernel
theorem dL_setTuft_3 : decode cL_setTuft 3 = .ok (.iload_n 1, 1) := by decide +kernel
theorem dL_setTuft_4 : decode cL_setTuft 4 = .ok (.iload_n 2, 1) := by decide +kernel
theorem dL_setTuft_5 : decode cL_setTuft 5 = .ok (.invokevirtual 21, 3) := by decide +kernel
theorem dL_setTuft_8 : decode cL_setTuft 8 = .ok (.i2l, 1) := by decide +kernel
theorem dL_setTuft_9 : decode cL_setTuft 9 = .ok (.lastore, 1) := by decide +kernel
theorem dL_setTuft_10 : decode cL_setTuft 10 = .ok (.goto 11, 3) := by decide +kernel
theorem dL_setTuft_13 : decode cL_setTuft 13 = .ok (.astore 4, 2) := by decide +kernel
theorem dL_setTuft_15 : decode cL_setTuft 15 = .ok (.iconst 1, 1) := by decide +kernel
theorem dL_setTuft_16 : decode cL_setTuft 16 = .ok (.ireturn, 1) := by decide +kernel
theorem dL_setTuft_17 : decode cL_setTuft 17 = .ok (.astore 4, 2) := by decide +kernel
theorem dL_setTuft_19 : decode cL_setTuft 19 = .ok (.iconst 2, 1) := by decide +kernel
theorem dL_setTuft_20 : decode cL_setTuft 20 = .ok (.ireturn, 1) := by decide +kernel
theorem dL_setTuft_21 : decode cL_setTuft 21 = .ok (.iconst 0, 1) := by decide +kernel
theorem dL_setTuft_22 : decode cL_setTuft 22 = .ok (.ireturn, 1) := by decide +kernel
set_option maxRecDepth 20000 in
theorem ggL_setFence_X6_setFence : GoodIn wsL_setFence wsX6_setFence := goodIn_ca (goodIn_ca (goodIn_r _ [7, 8, 9, 10, 11, 12, 13, 14, 15, 16, 17, 18, 19, 20, 21, 22, 6, 23, 24, 25, 26, 27, 28, 29, 30, 31, 32, 33, 34, 35, 36, 37, 38, 39, 40, 41, 42, 43, 44, 45, 46, 47, 48, 49, 50, 51, 52, 53, 54, 55, 56, 57, 58, 59, 60, 61, 62, 63, 64, 65, 66, 67, 68, 69, 70, 71, 72, 73, 74, 75, 76, 77, 78, 79, 80, 81, 82, 83, 84, 85, 86, 87, 88, 89, 90, 91, 92, 93, 94, 95, 96, 97, 98, 99, 100, 101] (by decide +kernel) (by decide +kernel)) (goodIn_sub (fun _ h => List.mem_cons_of_mem _ (List.mem_append_left _ (List.mem_append_right _ h))) (by decide +kernel))) (goodIn_sub (fun _ h => List.mem_cons_of_mem _ (List.mem_append_right _ h)) (by decide +kernel))
set_option maxRecDepth 20000 in
theorem gL_setFence_X6_setFence : GoodIn wsL_setFence (wsV RL 24 RX6 yX6_setFence wsX6_setFence) := goodIn_app (goodIn_of _ (by decide +kernel)) ggL_setFence_X6_setFence
theorem dL_setFence_0 : decode cL_setFence 0 = .ok (.aload_n 3, 1) := by decide +kernel
theorem dL_setFence_1 : decode cL_setFence 1 = .ok (.iconst 0, 1) := by decide +kernel
theorem dL_setFence_2 : decode cL_setFence 2 = .ok (.aload_n 0, 1) := by decide +kernel
theorem dL_setFence_3 : decode cL_setFence 3 = .ok (.iload_n 1, 1) := by decide +kernel
theorem dL_setFence_4 : decode cL_setFence 4 = .ok (.iload_n 2, 1) := by decide +kernel
theorem dL_setFence_5 : decode cL_setFence 5 = .ok (.invokevirtual 24, 3) := by decide +kernel
theorem dL_setFence_8 : decode cL_setFence 8 = .ok (.i2l, 1) := by decide +kernel
theorem dL_setFence_9 : decode cL_setFence 9 = .ok (.lastore, 1) := by decide +kernel
theorem dL_setFence_10 : decode cL_setFence 10 = .ok (.goto 11, 3) := by decide +kernel
theorem dL_setFence_13 : decode cL_setFence 13 = .ok (.astore 4, 2) := by decide +kernel
theorem dL_setFence_15 : decode cL_setFence 15 = .ok (.iconst 1, 1) := by decide +kernel
theorem dL_setFence_16 : decode cL_setFence 16 = .ok (.ireturn, 1) := by decide +kernel
theorem dL_setFence_17 : decode cL_setFence 17 = .ok (.astore 4, 2) := by decide +kernel
theorem dL_setFence_19 : decode cL_setFence 19 = .ok (.iconst 2, 1) := by decide +kernel
theorem dL_setFence_20 : decode cL_setFence 20 = .ok (.ireturn, 1) := by decide +kernel
theorem dL_setFence_21 : decode cL_setFence 21 = .ok (.iconst 0, 1) := by decide +kernel
theorem dL_setFence_22 : decode cL_setFence 22 = .ok (.ireturn, 1) := by decide +kernel
set_option maxRecDepth 20000 in
theorem ggL_set_X6_set : GoodIn wsL_set wsX6_set := goodIn_ca (goodIn_r _ [6, 7, 8, 9, 10, 11, 12, 5, 13, 14, 15, 16, 17, 18, 19, 20, 21, 22, 23, 24, 25, 26, 27, 28, 29, 30, 31, 32, 33, 34, 35, 36, 37, 38, 39, 40, 41, 42, 43, 44, 45, 46, 47, 48, 49, 50, 51, 52, 53, 54, 55, 56, 57, 58, 59, 60, 61, 62, 63, 64, 65, 66, 67, 68, 69, 70, 71, 72, 73, 74, 75, 76, 77, 78, 79, 80, 81, 82, 83, 84, 85] (by decide +kernel) (by decide +kernel)) (goodIn_sub (fun _ h => List.mem_cons_of_mem _ (List.mem_append_right _ h)) (by decide +kernel))
set_option maxRecDepth 20000 in
theorem gL_set_X6_set : GoodIn wsL_set (wsV RL 27 RX6 yX6_set wsX6_set) := goodIn_app (goodIn_of _ (by decide +kernel)) ggL_set_X6_set
theorem dL_set_0 : decode cL_set 0 = .ok (.aload_n 3, 1) := by decide +kernel
theorem dL_set_1 : decode cL_set 1 = .ok (.iconst 0, 1) := by decide +kernel
theorem dL_set_2 : decode cL_set 2 = .ok (.aload_n 0, 1) := by decide +kernel
theorem dL_set_3 : decode cL_set 3 = .ok (.iload_n 1, 1) := by decide +kernel
theorem dL_set_4 : decode cL_set 4 = .ok (.iload_n 2, 1) := by decide +kernel
theorem dL_set_5 : decode cL_set 5 = .ok (.invokevirtual 27, 3) := by decide +kernel
theorem dL_set_8 : decode cL_set 8 = .ok (.i2l, 1) := by decide +kernel
theorem dL_set_9 : decode cL_set 9 = .ok (.lastore, 1) := by decide +kernel
theorem dL_set_10 : decode cL_set 10 = .ok (.goto 7, 3) := by decide +kernel
theorem dL_set_13 : decode cL_set 13 = .ok (.astore 4, 2) := by decide +kernel
theorem dL_set_15 : decode cL_set 15 = .ok (.iconst 1, 1) := by decide +kernel
theorem dL_set_16 : decode cL_set 16 = .ok (.ireturn, 1) := by decide +kernel
theorem dL_set_17 : decode cL_set 17 = .ok (.iconst 0, 1) := by decide +kernel
theorem dL_set_18 : decode cL_set 18 = .ok (.ireturn, 1) := by decide +kernel
set_option maxRecDepth 20000 in
theorem ggL_setWind_X6_setWind : GoodIn wsL_setWind wsX6_setWind := goodIn_ca (goodIn_r _ [6, 7, 8, 9, 10, 11, 12, 13, 5, 14, 15, 16, 17, 18, 19, 20, 21, 22, 23, 24, 25, 26, 27, 28, 29, 30, 31, 32, 33, 34, 35, 36, 37, 38, 39, 40, 41, 42, 43, 44, 45, 46, 47, 48, 49, 50, 51, 52, 53, 54, 55, 56, 57, 58, 59, 60, 61, 62, 63, 64, 65, 66, 67, 68, 69, 70, 71, 72, 73, 74, 75, 76, 77, 78] (by decide +kernel) (by decide +kernel)) (goodIn_sub (fun _ h => List.mem_cons_of_mem _ (List.mem_append_right _ h)) (by decide +kernel))
set_option maxRecDepth 20000 in
theorem gL_setWind_X6_setWind : GoodIn wsL_setWind (wsV RL 30 RX6 yX6_setWind wsX6_setWind) := goodIn_app (goodIn_of _ (by decide +kernel)) ggL_setWind_X6_setWind
theorem dL_setWind_0 : decode cL_setWind 0 = .ok (.aload_n 3, 1) := by decide +kernel
theorem dL_setWind_1 : decode cL_setWind 1 = .ok (.iconst 0, 1) := by decide +kernel
theorem dL_setWind_2 : decode cL_setWind 2 = .ok (.aload_n 0, 1) := by decide +kernel
theorem dL_setWind_3 : decode cL_setWind 3 = .ok (.iload_n 1, 1) := by decide +kernel
theorem dL_setWind_4 : decode cL_setWind 4 = .ok (.iload_n 2, 1) := by decide +kernel
theorem dL_setWind_5 : decode cL_setWind 5 = .ok (.invokevirtual 30, 3) := by decide +kernel
theorem dL_setWind_8 : decode cL_setWind 8 = .ok (.i2l, 1) := by decide +kernel
theorem dL_setWind_9 : decode cL_setWind 9 = .ok (.lastore, 1) := by decide +kernel
theorem dL_setWind_10 : decode cL_setWind 10 = .ok (.goto 7, 3) := by decide +kernel
theorem dL_setWind_13 : decode cL_setWind 13 = .ok (.astore 4, 2) := by decide +kernel
theorem dL_setWind_15 : decode cL_setWind 15 = .ok (.iconst 1, 1) := by decide +kernel
theorem dL_setWind_16 : decode cL_setWind 16 = .ok (.ireturn, 1) := by decide +kernel
theorem dL_setWind_17 : decode cL_setWind 17 = .ok (.iconst 0, 1) := by decide +kernel
theorem dL_setWind_18 : decode cL_setWind 18 = .ok (.ireturn, 1) := by decide +kernel
set_option maxRecDepth 20000 in
theorem ggL_run_X6_run : GoodIn wsL_run wsX6_run := goodIn_ca (goodIn_r _ [6, 7, 8, 9, 10, 11, 12, 13, 5, 14, 15, 16, 17, 18, 19, 20, 21, 22, 23, 24, 25, 26, 27, 28, 29, 30, 31, 32, 33, 34, 35, 36, 37, 38, 39, 40, 41, 42, 43, 44, 45, 46, 47, 48, 49, 50, 51, 52, 53, 54, 55, 56, 57, 58, 59, 60, 61, 62, 63, 64, 65, 66, 67, 68, 69, 70, 71, 72, 73, 74, 75, 76, 77, 78, 79, 80, 81, 82, 83, 84, 85, 86, 87, 88, 89, 90, 91, 92, 93, 94, 95, 96, 97, 98, 99, 100, 101, 102, 103, 104, 105, 106, 107, 108, 109, 110, 111, 112, 113, 114, 115, 116, 117, 118, 119, 120, 121, 122, 123, 124, 125, 126, 127, 128, 129, 130, 131, 132, 133, 134, 135, 136, 137, 138, 139, 140, 141, 142, 143, 144, 145, 146, 147, 148, 149, 150, 151, 152, 153, 154, 155, 156, 157, 158, 159, 160, 161, 162, 163, 164, 165, 166, 167, 168, 169, 170, 171, 172, 173, 174, 175, 176, 177, 178, 179] (by decide +kernel) (by decide +kernel)) (goodIn_sub (fun _ h => List.mem_cons_of_mem _ (List.mem_append_right _ h)) (by decide +kernel))
set_option maxRecDepth 20000 in
theorem gL_run_X6_run : GoodIn wsL_run (wsV RL 33 RX6 yX6_run wsX6_run) := goodIn_app (goodIn_of _ (by decide +kernel)) ggL_run_X6_run
theorem dL_run_0 : decode cL_run 0 = .ok (.aload_n 2, 1) := by decide +kernel
theorem dL_run_1 : decode cL_run 1 = .ok (.iconst 0, 1) := by decide +kernel
theorem dL_run_2 : decode cL_run 2 = .ok (.aload_n 0, 1) := by decide +kernel
theorem dL_run_3 : decode cL_run 3 = .ok (.iload_n 1, 1) := by decide +kernel
theorem dL_run_4 : decode cL_run 4 = .ok (.invokevirtual 33, 3) := by decide +kernel
theorem dL_run_7 : decode cL_run 7 = .ok (.i2l, 1) := by decide +kernel
theorem dL_run_8 : decode cL_run 8 = .ok (.lastore, 1) := by decide +kernel
theorem dL_run_9 : decode cL_run 9 = .ok (.goto 6, 3) := by decide +kernel
theorem dL_run_12 : decode cL_run 12 = .ok (.astore_n 3, 1) := by decide +kernel
theorem dL_run_13 : decode cL_run 13 = .ok (.iconst 1, 1) := by decide +kernel
theorem dL_run_14 : decode cL_run 14 = .ok (.ireturn, 1) := by decide +kernel
theorem dL_run_15 : decode cL_run 15 = .ok (.iconst 0, 1) := by decide +kernel
theorem dL_run_16 : decode cL_run 16 = .ok (.ireturn, 1) := by decide +kernel
set_option maxRecDepth 20000 in
theorem ggL_value_X6_value : GoodIn wsL_value wsX6_value := goodIn_ca (goodIn_r _ [6, 7, 8, 9, 10, 11, 5, 12, 13, 14, 15, 16, 17, 18, 19, 20, 21, 22, 23, 24, 25, 26, 27, 28, 29, 30, 31, 32, 33, 34, 35, 36, 37, 38, 39, 40, 41, 42, 43, 44, 45, 46, 47, 48, 49, 50] (by decide +kernel) (by decide +kernel)) (goodIn_sub (fun _ h => List.mem_cons_of_mem _ (List.mem_append_right _ h)) (by decide +kernel))
set_option maxRecDepth 20000 in
theorem gL_value_X6_value : GoodIn wsL_value (wsV RL 37 RX6 yX6_value wsX6_value) := goodIn_app (goodIn_of _ (by decide +kernel)) ggL_value_X6_value
theorem dL_value_0 : decode cL_value 0 = .ok (.aload_n 2, 1) := by decide +kernel
theorem dL_value_1 : decode cL_value 1 = .ok (.iconst 0, 1) := by decide +kernel
theorem dL_value_2 : decode cL_value 2 = .ok (.aload_n 0, 1) := by decide +kernel
theorem dL_value_3 : decode cL_value 3 = .ok (.iload_n 1, 1) := by decide +kernel
theorem dL_value_4 : decode cL_value 4 = .ok (.invokevirtual 37, 3) := by decide +kernel
theorem dL_value_7 : decode cL_value 7 = .ok (.i2l, 1) := by decide +kernel
theorem dL_value_8 : decode cL_value 8 = .ok (.lastore, 1) := by decide +kernel
theorem dL_value_9 : decode cL_value 9 = .ok (.goto 6, 3) := by decide +kernel
theorem dL_value_12 : decode cL_value 12 = .ok (.astore_n 3, 1) := by decide +kernel
theorem dL_value_13 : decode cL_value 13 = .ok (.iconst 1, 1) := by decide +kernel
theorem dL_value_14 : decode cL_value 14 = .ok (.ireturn, 1) := by decide +kernel
theorem dL_value_15 : decode cL_value 15 = .ok (.iconst 0, 1) := by decide +kernel
theorem dL_value_16 : decode cL_value 16 = .ok (.ireturn, 1) := by decide +kernel
set_option maxRecDepth 20000 in
theorem ggL_cell_X6_cell : GoodIn wsL_cell wsX6_cell := goodIn_ca (goodIn_ca (goodIn_r _ [7, 8, 9, 10, 11, 12, 13, 14, 15, 16, 17, 18, 19, 20, 21, 6, 22, 23, 24, 25, 26, 27, 28, 29, 30, 31, 32, 33, 34, 35, 36, 37, 38, 39, 40, 41, 42, 43, 44, 45, 46, 47, 48, 49, 50, 51, 52, 53, 54, 55, 56, 57, 58, 59, 60, 61, 62, 63, 64, 65, 66, 67, 68, 69, 70, 71, 72, 73, 74, 75, 76, 77, 78, 79, 80, 81, 82, 83] (by decide +kernel) (by decide +kernel)) (goodIn_sub (fun _ h => List.mem_cons_of_mem _ (List.mem_append_left _ (List.mem_append_right _ h))) (by decide +kernel))) (goodIn_sub (fun _ h => List.mem_cons_of_mem _ (List.mem_append_right _ h)) (by decide +kernel))
set_option maxRecDepth 20000 in
theorem gL_cell_X6_cell : GoodIn wsL_cell (wsV RL 40 RX6 yX6_cell wsX6_cell) := goodIn_app (goodIn_of _ (by decide +kernel)) ggL_cell_X6_cell
theorem dL_cell_0 : decode cL_cell 0 = .ok (.aload_n 3, 1) := by decide +kernel
theorem dL_cell_1 : decode cL_cell 1 = .ok (.iconst 0, 1) := by decide +kernel
theorem dL_cell_2 : decode cL_cell 2 = .ok (.aload_n 0, 1) := by decide +kernel
theorem dL_cell_3 : decode cL_cell 3 = .ok (.iload_n 1, 1) := by decide +kernel
theorem dL_cell_4 : decode cL_cell 4 = .ok (.iload_n 2, 1) := by decide +kernel
theorem dL_cell_5 : decode cL_cell 5 = .ok (.invokevirtual 40, 3) := by decide +kernel
theorem dL_cell_8 : decode cL_cell 8 = .ok (.i2l, 1) := by decide +kernel
theorem dL_cell_9 : decode cL_cell 9 = .ok (.lastore, 1) := by decide +kernel
theorem dL_cell_10 : decode cL_cell 10 = .ok (.goto 11, 3) := by decide +kernel
theorem dL_cell_13 : decode cL_cell 13 = .ok (.astore 4, 2) := by decide +kernel
theorem dL_cell_15 : decode cL_cell 15 = .ok (.iconst 1, 1) := by decide +kernel
theorem dL_cell_16 : decode cL_cell 16 = .ok (.ireturn, 1) := by decide +kernel
theorem dL_cell_17 : decode cL_cell 17 = .ok (.astore 4, 2) := by decide +kernel
theorem dL_cell_19 : decode cL_cell 19 = .ok (.iconst 2, 1) := by decide +kernel
theorem dL_cell_20 : decode cL_cell 20 = .ok (.ireturn, 1) := by decide +kernel
theorem dL_cell_21 : decode cL_cell 21 = .ok (.iconst 0, 1) := by decide +kernel
theorem dL_cell_22 : decode cL_cell 22 = .ok (.ireturn, 1) := by decide +kernel
set_option maxRecDepth 20000 in
theorem ggL_count_X6_count : GoodIn wsL_count wsX6_count := goodIn_ca (goodIn_r _ [6, 7, 8, 9, 10, 11, 5, 12, 13, 14, 15, 16, 17, 18, 19, 20, 21, 22, 23, 24, 25, 26, 27, 28, 29, 30, 31, 32, 33, 34, 35, 36, 37, 38, 39] (by decide +kernel) (by decide +kernel)) (goodIn_sub (fun _ h => List.mem_cons_of_mem _ (List.mem_append_right _ h)) (by decide +kernel))
set_option maxRecDepth 20000 in
theorem gL_count_X6_count : GoodIn wsL_count (wsV RL 43 RX6 yX6_count wsX6_count) := goodIn_app (goodIn_of _ (by decide +kernel)) ggL_count_X6_count
theorem dL_count_0 : decode cL_count 0 = .ok (.aload_n 2, 1) := by decide +kernel
theorem dL_count_1 : decode cL_count 1 = .ok (.iconst 0, 1) := by decide +kernel
theorem dL_count_2 : decode cL_count 2 = .ok (.aload_n 0, 1) := by decide +kernel
theorem dL_count_3 : decode cL_count 3 = .ok (.iload_n 1, 1) := by decide +kernel
theorem dL_count_4 : decode cL_count 4 = .ok (.invokevirtual 43, 3) := by decide +kernel
theorem dL_count_7 : decode cL_count 7 = .ok (.i2l, 1) := by decide +kernel
theorem dL_count_8 : decode cL_count 8 = .ok (.lastore, 1) := by decide +kernel
theorem dL_count_9 : decode cL_count 9 = .ok (.goto 6, 3) := by decide +kernel
theorem dL_count_12 : decode cL_count 12 = .ok (.astore_n 3, 1) := by decide +kernel
theorem dL_count_13 : decode cL_count 13 = .ok (.iconst 1, 1) := by decide +kernel
theorem dL_count_14 : decode cL_count 14 = .ok (.ireturn, 1) := by decide +kernel
theorem dL_count_15 : decode cL_count 15 = .ok (.iconst 0, 1) := by decide +kernel
theorem dL_count_16 : decode cL_count 16 = .ok (.ireturn, 1) := by decide +kernel
set_option maxRecDepth 20000 in
theorem ggL_latest_X6_latest : GoodIn wsL_latest wsX6_latest := goodIn_ca (goodIn_r _ [6, 7, 8, 9, 10, 11, 5, 12, 13, 14, 15, 16, 17, 18, 19, 20, 21, 22, 23, 24, 25, 26, 27, 28, 29, 30, 31, 32, 33, 34, 35, 36, 37, 38, 39] (by decide +kernel) (by decide +kernel)) (goodIn_sub (fun _ h => List.mem_cons_of_mem _ (List.mem_append_right _ h)) (by decide +kernel))
set_option maxRecDepth 20000 in
theorem gL_latest_X6_latest : GoodIn wsL_latest (wsV RL 46 RX6 yX6_latest wsX6_latest) := goodIn_app (goodIn_of _ (by decide +kernel)) ggL_latest_X6_latest
theorem dL_latest_0 : decode cL_latest 0 = .ok (.aload_n 2, 1) := by decide +kernel
theorem dL_latest_1 : decode cL_latest 1 = .ok (.iconst 0, 1) := by decide +kernel
theorem dL_latest_2 : decode cL_latest 2 = .ok (.aload_n 0, 1) := by decide +kernel
theorem dL_latest_3 : decode cL_latest 3 = .ok (.iload_n 1, 1) := by decide +kernel
theorem dL_latest_4 : decode cL_latest 4 = .ok (.invokevirtual 46, 3) := by decide +kernel
theorem dL_latest_7 : decode cL_latest 7 = .ok (.i2l, 1) := by decide +kernel
theorem dL_latest_8 : decode cL_latest 8 = .ok (.lastore, 1) := by decide +kernel
theorem dL_latest_9 : decode cL_latest 9 = .ok (.goto 6, 3) := by decide +kernel
theorem dL_latest_12 : decode cL_latest 12 = .ok (.astore_n 3, 1) := by decide +kernel
theorem dL_latest_13 : decode cL_latest 13 = .ok (.iconst 1, 1) := by decide +kernel
theorem dL_latest_14 : decode cL_latest 14 = .ok (.ireturn, 1) := by decide +kernel
theorem dL_latest_15 : decode cL_latest 15 = .ok (.iconst 0, 1) := by decide +kernel
theorem dL_latest_16 : decode cL_latest 16 = .ok (.ireturn, 1) := by decide +kernel
set_option maxRecDepth 20000 in
theorem ggL_relief_X6_relief : GoodIn wsL_relief wsX6_relief := goodIn_ca (goodIn_r _ [6, 7, 8, 9, 10, 11, 12, 13, 14, 15, 16, 17, 18, 19, 20, 21, 22, 23, 24, 25, 26, 27, 28, 29, 30, 31, 32, 33, 34, 35, 36, 37, 38, 39, 40, 41, 42, 43, 44, 45, 46, 47, 48, 49, 50, 51, 52, 53, 54, 55, 56, 57, 58, 59, 60, 61, 62, 63, 64, 65, 66, 67, 68] (by decide +kernel) (by decide +kernel)) (goodIn_sub (fun _ h => List.mem_cons_of_mem _ (List.mem_append_right _ h)) (by decide +kernel))
set_option maxRecDepth 20000 in
theorem gL_relief_X6_relief : GoodIn wsL_relief (wsV RL 49 RX6 yX6_relief wsX6_relief) := goodIn_app (goodIn_of _ (by decide +kernel)) ggL_relief_X6_relief
theorem dL_relief_0 : decode cL_relief 0 = .ok (.aload_n 2, 1) := by decide +kernel
theorem dL_relief_1 : decode cL_relief 1 = .ok (.iconst 0, 1) := by decide +kernel
theorem dL_relief_2 : decode cL_relief 2 = .ok (.aload_n 0, 1) := by decide +kernel
theorem dL_relief_3 : decode cL_relief 3 = .ok (.iload_n 1, 1) := by decide +kernel
theorem dL_relief_4 : decode cL_relief 4 = .ok (.invokevirtual 49, 3) := by decide +kernel
theorem dL_relief_7 : decode cL_relief 7 = .ok (.i2l, 1) := by decide +kernel
theorem dL_relief_8 : decode cL_relief 8 = .ok (.lastore, 1) := by decide +kernel
theorem dL_relief_9 : decode cL_relief 9 = .ok (.goto 6, 3) := by decide +kernel
theorem dL_relief_12 : decode cL_relief 12 = .ok (.astore_n 3, 1) := by decide +kernel
theorem dL_relief_13 : decode cL_relief 13 = .ok (.iconst 1, 1) := by decide +kernel
theorem dL_relief_14 : decode cL_relief 14 = .ok (.ireturn, 1) := by decide +kernel
theorem dL_relief_15 : decode cL_relief 15 = .ok (.iconst 0, 1) := by decide +kernel
theorem dL_relief_16 : decode cL_relief 16 = .ok (.ireturn, 1) := by decide +kernel
set_option maxRecDepth 20000 in
theorem ggL_dunes_X6_dunes : GoodIn wsL_dunes wsX6_dunes := goodIn_ca (goodIn_r _ [6, 7, 8, 9, 10, 11, 12, 5, 13, 14, 15, 16, 17, 18, 19, 20, 21, 22, 23, 24, 25, 26, 27, 28, 29, 30, 31, 32, 33, 34, 35, 36, 37, 38, 39, 40, 41, 42, 43, 44, 45, 46, 47, 48, 49, 50, 51, 52, 53, 54, 55, 56, 57, 58, 59, 60, 61, 62, 63, 64, 65, 66, 67, 68, 69, 70, 71, 72, 73, 74, 75, 76, 77, 78, 79, 80, 81, 82] (by decide +kernel) (by decide +kernel)) (goodIn_sub (fun _ h => List.mem_cons_of_mem _ (List.mem_append_right _ h)) (by decide +kernel))
set_option maxRecDepth 20000 in
theorem gL_dunes_X6_dunes : GoodIn wsL_dunes (wsV RL 52 RX6 yX6_dunes wsX6_dunes) := goodIn_app (goodIn_of _ (by decide +kernel)) ggL_dunes_X6_dunes
theorem dL_dunes_0 : decode cL_dunes 0 = .ok (.aload_n 2, 1) := by decide +kernel
theorem dL_dunes_1 : decode cL_dunes 1 = .ok (.iconst 0, 1) := by decide +kernel
theorem dL_dunes_2 : decode cL_dunes 2 = .ok (.aload_n 0, 1) := by decide +kernel
theorem dL_dunes_3 : decode cL_dunes 3 = .ok (.iload_n 1, 1) := by decide +kernel
theorem dL_dunes_4 : decode cL_dunes 4 = .ok (.invokevirtual 52, 3) := by decide +kernel
theorem dL_dunes_7 : decode cL_dunes 7 = .ok (.i2l, 1) := by decide +kernel
theorem dL_dunes_8 : decode cL_dunes 8 = .ok (.lastore, 1) := by decide +kernel
theorem dL_dunes_9 : decode cL_dunes 9 = .ok (.goto 6, 3) := by decide +kernel
theorem dL_dunes_12 : decode cL_dunes 12 = .ok (.astore_n 3, 1) := by decide +kernel
theorem dL_dunes_13 : decode cL_dunes 13 = .ok (.iconst 1, 1) := by decide +kernel
theorem dL_dunes_14 : decode cL_dunes 14 = .ok (.ireturn, 1) := by decide +kernel
theorem dL_dunes_15 : decode cL_dunes 15 = .ok (.iconst 0, 1) := by decide +kernel
theorem dL_dunes_16 : decode cL_dunes 16 = .ok (.ireturn, 1) := by decide +kernel
set_option maxRecDepth 20000 in
theorem ggL_greatestDune_X6_greatestDune : GoodIn wsL_greatestDune wsX6_greatestDune := goodIn_ca (goodIn_r _ [6, 7, 8, 9, 10, 11, 12, 5, 13, 14, 15, 16, 17, 18, 19, 20, 21, 22, 23, 24, 25, 26, 27, 28, 29, 30, 31, 32, 33, 34, 35, 36, 37, 38, 39, 40, 41, 42, 43, 44, 45, 46, 47, 48, 49, 50, 51, 52, 53, 54, 55, 56, 57, 58, 59, 60, 61, 62, 63, 64, 65, 66, 67, 68, 69, 70, 71, 72, 73, 74, 75, 76, 77, 78, 79, 80, 81, 82, 83, 84, 85, 86, 87, 88, 89, 90] (by decide +kernel) (by decide +kernel)) (goodIn_sub (fun _ h => List.mem_cons_of_mem _ (List.mem_append_right _ h)) (by decide +kernel))
set_option maxRecDepth 20000 in
theorem gL_greatestDune_X6_greatestDune : GoodIn wsL_greatestDune (wsV RL 55 RX6 yX6_greatestDune wsX6_greatestDune) := goodIn_app (goodIn_of _ (by decide +kernel)) ggL_greatestDune_X6_greatestDune
theorem dL_greatestDune_0 : decode cL_greatestDune 0 = .ok (.aload_n 2, 1) := by decide +kernel
theorem dL_greatestDune_1 : decode cL_greatestDune 1 = .ok (.iconst 0, 1) := by decide +kernel
theorem dL_greatestDune_2 : decode cL_greatestDune 2 = .ok (.aload_n 0, 1) := by decide +kernel
theorem dL_greatestDune_3 : decode cL_greatestDune 3 = .ok (.iload_n 1, 1) := by decide +kernel
theorem dL_greatestDune_4 : decode cL_greatestDune 4 = .ok (.invokevirtual 55, 3) := by decide +kernel
theorem dL_greatestDune_7 : decode cL_greatestDune 7 = .ok (.i2l, 1) := by decide +kernel
theorem dL_greatestDune_8 : decode cL_greatestDune 8 = .ok (.lastore, 1) := by decide +kernel
theorem dL_greatestDune_9 : decode cL_greatestDune 9 = .ok (.goto 6, 3) := by decide +kernel
theorem dL_greatestDune_12 : decode cL_greatestDune 12 = .ok (.astore_n 3, 1) := by decide +kernel
theorem dL_greatestDune_13 : decode cL_greatestDune 13 = .ok (.iconst 1, 1) := by decide +kernel
theorem dL_greatestDune_14 : decode cL_greatestDune 14 = .ok (.ireturn, 1) := by decide +kernel
theorem dL_greatestDune_15 : decode cL_greatestDune 15 = .ok (.iconst 0, 1) := by decide +kernel
theorem dL_greatestDune_16 : decode cL_greatestDune 16 = .ok (.ireturn, 1) := by decide +kernel
set_option maxRecDepth 20000 in
theorem ggL_duneOf_X6_duneOf : GoodIn wsL_duneOf wsX6_duneOf := goodIn_ca (goodIn_ca (goodIn_r _ [7, 8, 9, 10, 11, 12, 13, 14, 15, 16, 17, 18, 19, 20, 21, 22, 6, 23, 24, 25, 26, 27, 28, 29, 30, 31, 32, 33, 34, 35, 36, 37, 38, 39, 40, 41, 42, 43, 44, 45, 46, 47, 48, 49, 50, 51, 52, 53, 54, 55, 56, 57, 58, 59, 60, 61, 62, 63, 64, 65, 66, 67, 68, 69, 70, 71, 72, 73, 74, 75, 76, 77, 78, 79, 80, 81, 82, 83, 84, 85, 86, 87, 88, 89, 90] (by decide +kernel) (by decide +kernel)) (goodIn_sub (fun _ h => List.mem_cons_of_mem _ (List.mem_append_left _ (List.mem_append_right _ h))) (by decide +kernel))) (goodIn_sub (fun _ h => List.mem_cons_of_mem _ (List.mem_append_right _ h)) (by decide +kernel))
set_option maxRecDepth 20000 in
theorem gL_duneOf_X6_duneOf : GoodIn wsL_duneOf (wsV RL 58 RX6 yX6_duneOf wsX6_duneOf) := goodIn_app (goodIn_of _ (by decide +kernel)) ggL_duneOf_X6_duneOf
theorem dL_duneOf_0 : decode cL_duneOf 0 = .ok (.aload_n 3, 1) := by decide +kernel
theorem dL_duneOf_1 : decode cL_duneOf 1 = .ok (.iconst 0, 1) := by decide +kernel
theorem dL_duneOf_2 : decode cL_duneOf 2 = .ok (.aload_n 0, 1) := by decide +kernel
theorem dL_duneOf_3 : decode cL_duneOf 3 = .ok (.iload_n 1, 1) := by decide +kernel
theorem dL_duneOf_4 : decode cL_duneOf 4 = .ok (.iload_n 2, 1) := by decide +kernel
theorem dL_duneOf_5 : decode cL_duneOf 5 = .ok (.invokevirtual 58, 3) := by decide +kernel
theorem dL_duneOf_8 : decode cL_duneOf 8 = .ok (.i2l, 1) := by decide +kernel
theorem dL_duneOf_9 : decode cL_duneOf 9 = .ok (.lastore, 1) := by decide +kernel
theorem dL_duneOf_10 : decode cL_duneOf 10 = .ok (.goto 11, 3) := by decide +kernel
theorem dL_duneOf_13 : decode cL_duneOf 13 = .ok (.astore 4, 2) := by decide +kernel
theorem dL_duneOf_15 : decode cL_duneOf 15 = .ok (.iconst 1, 1) := by decide +kernel
theorem dL_duneOf_16 : decode cL_duneOf 16 = .ok (.ireturn, 1) := by decide +kernel
theorem dL_duneOf_17 : decode cL_duneOf 17 = .ok (.astore 4, 2) := by decide +kernel
theorem dL_duneOf_19 : decode cL_duneOf 19 = .ok (.iconst 2, 1) := by decide +kernel
theorem dL_duneOf_20 : decode cL_duneOf 20 = .ok (.ireturn, 1) := by decide +kernel
theorem dL_duneOf_21 : decode cL_duneOf 21 = .ok (.iconst 0, 1) := by decide +kernel
theorem dL_duneOf_22 : decode cL_duneOf 22 = .ok (.ireturn, 1) := by decide +kernel
set_option maxRecDepth 20000 in
theorem ggL_dunesAfter_X6_dunesAfter : GoodIn wsL_dunesAfter wsX6_dunesAfter := goodIn_ca (goodIn_r _ [6, 7, 8, 9, 10, 11, 12, 13, 14, 5, 15, 16, 17, 18, 19, 20, 21, 22, 23, 24, 25, 26, 27, 28, 29, 30, 31, 32, 33, 34, 35, 36, 37, 38, 39, 40, 41, 42, 43, 44, 45, 46, 47, 48, 49, 50, 51, 52, 53, 54, 55, 56, 57, 58, 59, 60, 61, 62, 63, 64, 65, 66, 67, 68, 69, 70, 71, 72, 73, 74, 75, 76, 77, 78, 79, 80, 81, 82, 83, 84, 85, 86, 87, 88, 89, 90, 91, 92, 93, 94, 95, 96, 97, 98, 99, 100, 101, 102, 103, 104, 105, 106, 107, 108, 109, 110, 111, 112, 113, 114, 115, 116, 117, 118, 119, 120, 121, 122, 123, 124, 125, 126, 127, 128, 129, 130, 131, 132, 133, 134, 135, 136, 137, 138, 139, 140, 141, 142, 143, 144, 145, 146, 147, 148, 149, 150, 151, 152, 153, 154, 155, 156, 157, 158, 159, 160, 161, 162, 163, 164, 165, 166, 167, 168, 169, 170, 171, 172, 173, 174, 175, 176, 177, 178, 179, 180, 181, 182, 183, 184, 185, 186, 187, 188, 189, 190, 191, 192, 193] (by decide +kernel) (by decide +kernel)) (goodIn_sub (fun _ h => List.mem_cons_of_mem _ (List.mem_append_right _ h)) (by decide +kernel))
set_option maxRecDepth 20000 in
theorem gL_dunesAfter_X6_dunesAfter : GoodIn wsL_dunesAfter (wsV RL 61 RX6 yX6_dunesAfter wsX6_dunesAfter) := goodIn_app (goodIn_of _ (by decide +kernel)) ggL_dunesAfter_X6_dunesAfter
theorem dL_dunesAfter_0 : decode cL_dunesAfter 0 = .ok (.aload_n 3, 1) := by decide +kernel
theorem dL_dunesAfter_1 : decode cL_dunesAfter 1 = .ok (.iconst 0, 1) := by decide +kernel
theorem dL_dunesAfter_2 : decode cL_dunesAfter 2 = .ok (.aload_n 0, 1) := by decide +kernel
theorem dL_dunesAfter_3 : decode cL_dunesAfter 3 = .ok (.iload_n 1, 1) := by decide +kernel
theorem dL_dunesAfter_4 : decode cL_dunesAfter 4 = .ok (.iload_n 2, 1) := by decide +kernel
theorem dL_dunesAfter_5 : decode cL_dunesAfter 5 = .ok (.invokevirtual 61, 3) := by decide +kernel
theorem dL_dunesAfter_8 : decode cL_dunesAfter 8 = .ok (.i2l, 1) := by decide +kernel
theorem dL_dunesAfter_9 : decode cL_dunesAfter 9 = .ok (.lastore, 1) := by decide +kernel
theorem dL_dunesAfter_10 : decode cL_dunesAfter 10 = .ok (.goto 7, 3) := by decide +kernel
theorem dL_dunesAfter_13 : decode cL_dunesAfter 13 = .ok (.astore 4, 2) := by decide +kernel
theorem dL_dunesAfter_15 : decode cL_dunesAfter 15 = .ok (.iconst 1, 1) := by decide +kernel
theorem dL_dunesAfter_16 : decode cL_dunesAfter 16 = .ok (.ireturn, 1) := by decide +kernel
theorem dL_dunesAfter_17 : decode cL_dunesAfter 17 = .ok (.iconst 0, 1) := by decide +kernel
theorem dL_dunesAfter_18 : decode cL_dunesAfter 18 = .ok (.ireturn, 1) := by decide +kernel
set_option maxRecDepth 20000 in
theorem ggL_bestFence_X6_bestFence : GoodIn wsL_bestFence wsX6_bestFence := goodIn_ca (goodIn_ca (goodIn_r _ [7, 8, 9, 10, 11, 12, 13, 14, 6, 15, 16, 17, 18, 19, 20, 21, 22, 23, 24, 25, 26, 27, 28, 29, 30, 31, 32, 33, 34, 35, 36, 37, 38, 39, 40, 41, 42, 43, 44, 45, 46, 47, 48, 49, 50, 51, 52, 53, 54, 55, 56, 57, 58, 59, 60, 61, 62, 63, 64, 65, 66, 67, 68, 69, 70, 71, 72, 73, 74, 75, 76, 77, 78, 79, 80, 81, 82, 83, 84, 85, 86, 87, 88, 89, 90, 91, 92, 93, 94, 95, 96, 97, 98, 99, 100, 101, 102, 103, 104, 105, 106, 107, 108, 109, 110, 111, 112, 113, 114, 115, 116, 117, 118, 119, 120, 121, 122, 123, 124, 125, 126, 127, 128, 129, 130, 131, 132, 133, 134, 135, 136, 137, 138, 139, 140, 141, 142, 143, 144, 145, 146, 147, 148, 149, 150, 151, 152, 153, 154, 155, 156, 157, 158, 159, 160, 161, 162, 163, 164, 165, 166, 167, 168, 169, 170, 171, 172, 173, 174, 175, 176, 177, 178, 179, 180, 181, 182] (by decide +kernel) (by decide +kernel)) (goodIn_sub (fun _ h => List.mem_cons_of_mem _ (List.mem_append_left _ (List.mem_append_right _ h))) (by decide +kernel))) (goodIn_sub (fun _ h => List.mem_cons_of_mem _ (List.mem_append_right _ h)) (by decide +kernel))
set_option maxRecDepth 20000 in
theorem gL_bestFence_X6_bestFence : GoodIn wsL_bestFence (wsV RL 64 RX6 yX6_bestFence wsX6_bestFence) := goodIn_app (goodIn_of _ (by decide +kernel)) ggL_bestFence_X6_bestFence
theorem dL_bestFence_0 : decode cL_bestFence 0 = .ok (.aload_n 3, 1) := by decide +kernel
theorem dL_bestFence_1 : decode cL_bestFence 1 = .ok (.iconst 0, 1) := by decide +kernel
theorem dL_bestFence_2 : decode cL_bestFence 2 = .ok (.aload_n 0, 1) := by decide +kernel
theorem dL_bestFence_3 : decode cL_bestFence 3 = .ok (.iload_n 1, 1) := by decide +kernel
theorem dL_bestFence_4 : decode cL_bestFence 4 = .ok (.iload_n 2, 1) := by decide +kernel
theorem dL_bestFence_5 : decode cL_bestFence 5 = .ok (.invokevirtual 64, 3) := by decide +kernel
theorem dL_bestFence_8 : decode cL_bestFence 8 = .ok (.i2l, 1) := by decide +kernel
theorem dL_bestFence_9 : decode cL_bestFence 9 = .ok (.lastore, 1) := by decide +kernel
theorem dL_bestFence_10 : decode cL_bestFence 10 = .ok (.goto 11, 3) := by decide +kernel
theorem dL_bestFence_13 : decode cL_bestFence 13 = .ok (.astore 4, 2) := by decide +kernel
theorem dL_bestFence_15 : decode cL_bestFence 15 = .ok (.iconst 1, 1) := by decide +kernel
theorem dL_bestFence_16 : decode cL_bestFence 16 = .ok (.ireturn, 1) := by decide +kernel
theorem dL_bestFence_17 : decode cL_bestFence 17 = .ok (.astore 4, 2) := by decide +kernel
theorem dL_bestFence_19 : decode cL_bestFence 19 = .ok (.iconst 2, 1) := by decide +kernel
theorem dL_bestFence_20 : decode cL_bestFence 20 = .ok (.ireturn, 1) := by decide +kernel
theorem dL_bestFence_21 : decode cL_bestFence 21 = .ok (.iconst 0, 1) := by decide +kernel
theorem dL_bestFence_22 : decode cL_bestFence 22 = .ok (.ireturn, 1) := by decide +kernel
set_option maxRecDepth 20000 in
theorem ggL_liveliestWind_X6_liveliestWind : GoodIn wsL_liveliestWind wsX6_liveliestWind := goodIn_ca (goodIn_r _ [6, 7, 8, 9, 10, 11, 12, 13, 5, 14, 15, 16, 17, 18, 19, 20, 21, 22, 23, 24, 25, 26, 27, 28, 29, 30, 31, 32, 33, 34, 35, 36, 37, 38, 39, 40, 41, 42, 43, 44, 45, 46, 47, 48, 49, 50, 51, 52, 53, 54, 55, 56, 57, 58, 59, 60, 61, 62, 63, 64, 65, 66, 67, 68, 69, 70, 71, 72, 73, 74, 75, 76, 77, 78, 79, 80, 81, 82, 83, 84, 85, 86, 87, 88, 89, 90, 91, 92, 93, 94, 95, 96, 97, 98, 99, 100, 101, 102, 103, 104, 105, 106, 107, 108, 109, 110, 111, 112, 113, 114, 115, 116, 117, 118, 119, 120, 121, 122, 123, 124, 125, 126, 127, 128, 129, 130, 131, 132, 133, 134, 135, 136, 137, 138, 139, 140, 141, 142, 143, 144, 145, 146, 147, 148, 149, 150, 151, 152, 153, 154, 155, 156, 157, 158, 159, 160, 161, 162, 163, 164] (by decide +kernel) (by decide +kernel)) (goodIn_sub (fun _ h => List.mem_cons_of_mem _ (List.mem_append_right _ h)) (by decide +kernel))
set_option maxRecDepth 20000 in
theorem gL_liveliestWind_X6_liveliestWind : GoodIn wsL_liveliestWind (wsV RL 67 RX6 yX6_liveliestWind wsX6_liveliestWind) := goodIn_app (goodIn_of _ (by decide +kernel)) ggL_liveliestWind_X6_liveliestWind
theorem dL_liveliestWind_0 : decode cL_liveliestWind 0 = .ok (.aload_n 2, 1) := by decide +kernel
theorem dL_liveliestWind_1 : decode cL_liveliestWind 1 = .ok (.iconst 0, 1) := by decide +kernel
theorem dL_liveliestWind_2 : decode cL_liveliestWind 2 = .ok (.aload_n 0, 1) := by decide +kernel
theorem dL_liveliestWind_3 : decode cL_liveliestWind 3 = .ok (.iload_n 1, 1) := by decide +kernel
theorem dL_liveliestWind_4 : decode cL_liveliestWind 4 = .ok (.invokevirtual 67, 3) := by decide +kernel
theorem dL_liveliestWind_7 : decode cL_liveliestWind 7 = .ok (.i2l, 1) := by decide +kernel
theorem dL_liveliestWind_8 : decode cL_liveliestWind 8 = .ok (.lastore, 1) := by decide +kernel
theorem dL_liveliestWind_9 : decode cL_liveliestWind 9 = .ok (.goto 6, 3) := by decide +kernel
theorem dL_liveliestWind_12 : decode cL_liveliestWind 12 = .ok (.astore_n 3, 1) := by decide +kernel
theorem dL_liveliestWind_13 : decode cL_liveliestWind 13 = .ok (.iconst 1, 1) := by decide +kernel
theorem dL_liveliestWind_14 : decode cL_liveliestWind 14 = .ok (.ireturn, 1) := by decide +kernel
theorem dL_liveliestWind_15 : decode cL_liveliestWind 15 = .ok (.iconst 0, 1) := by decide +kernel
theorem dL_liveliestWind_16 : decode cL_liveliestWind 16 = .ok (.ireturn, 1) := by decide +kernel
set_option maxRecDepth 20000 in
theorem ggL_append_X6_append : GoodIn wsL_append wsX6_append := goodIn_ca (goodIn_ca (goodIn_r _ [7, 8, 9, 10, 11, 12, 13, 14, 6, 15, 16, 17, 18, 19, 20, 21, 22, 23, 24, 25, 26, 27, 28, 29, 30, 31, 32, 33, 34, 35, 36, 37, 38, 39, 40] (by decide +kernel) (by decide +kernel)) (goodIn_sub (fun _ h => List.mem_cons_of_mem _ (List.mem_append_left _ (List.mem_append_right _ h))) (by decide +kernel))) (goodIn_sub (fun _ h => List.mem_cons_of_mem _ (List.mem_append_right _ h)) (by decide +kernel))
set_option maxRecDepth 20000 in
theorem gL_append_X6_append : GoodIn wsL_append (wsV RL 70 RX6 yX6_append wsX6_append) := goodIn_app (goodIn_of _ (by decide +kernel)) ggL_append_X6_append
theorem dL_append_0 : decode cL_append 0 = .ok (.aload_n 2, 1) := by decide +kernel
theorem dL_append_1 : decode cL_append 1 = .ok (.iconst 0, 1) := by decide +kernel
theorem dL_append_2 : decode cL_append 2 = .ok (.aload_n 0, 1) := by decide +kernel
theorem dL_append_3 : decode cL_append 3 = .ok (.iload_n 1, 1) := by decide +kernel
theorem dL_append_4 : decode cL_append 4 = .ok (.invokevirtual 70, 3) := by decide +kernel
theorem dL_append_7 : decode cL_append 7 = .ok (.i2l, 1) := by decide +kernel
theorem dL_append_8 : decode cL_append 8 = .ok (.lastore, 1) := by decide +kernel
theorem dL_append_9 : decode cL_append 9 = .ok (.goto 9, 3) := by decide +kernel
theorem dL_append_12 : decode cL_append 12 = .ok (.astore_n 3, 1) := by decide +kernel
theorem dL_append_13 : decode cL_append 13 = .ok (.iconst 1, 1) := by decide +kernel
theorem dL_append_14 : decode cL_append 14 = .ok (.ireturn, 1) := by decide +kernel
theorem dL_append_15 : decode cL_append 15 = .ok (.astore_n 3, 1) := by decide +kernel
theorem dL_append_16 : decode cL_append 16 = .ok (.iconst 2, 1) := by decide +kernel
theorem dL_append_17 : decode cL_append 17 = .ok (.ireturn, 1) := by decide +kernel
theorem dL_append_18 : decode cL_append 18 = .ok (.iconst 0, 1) := by decide +kernel
theorem dL_append_19 : decode cL_append 19 = .ok (.ireturn, 1) := by decide +kernel
set_option maxRecDepth 20000 in
theorem ggL_undo_X6_undo : GoodIn wsL_undo wsX6_undo := goodIn_ca (goodIn_r _ [6, 7, 8, 9, 10, 11, 12, 13, 14, 15, 16, 17, 18, 19, 20, 21, 22, 23, 24, 25, 26, 27, 28, 29, 30, 31, 32, 33, 34, 35, 36, 37, 38, 39, 40, 41, 42, 43, 44, 45, 46, 47, 48, 49, 50, 51, 52, 53, 54, 55, 56, 57, 58, 59, 60, 61, 62, 63, 64, 65, 66, 67, 68, 69, 70, 71, 72, 73, 74] (by decide +kernel) (by decide +kernel)) (goodIn_sub (fun _ h => List.mem_cons_of_mem _ (List.mem_append_right _ h)) (by decide +kernel))
set_option maxRecDepth 20000 in
theorem gL_undo_X6_undo : GoodIn wsL_undo (wsV RL 75 RX6 yX6_undo wsX6_undo) := goodIn_app (goodIn_of _ (by decide +kernel)) ggL_undo_X6_undo
theorem dL_undo_0 : decode cL_undo 0 = .ok (.aload_n 1, 1) := by decide +kernel
theorem dL_undo_1 : decode cL_undo 1 = .ok (.iconst 0, 1) := by decide +kernel
theorem dL_undo_2 : decode cL_undo 2 = .ok (.aload_n 0, 1) := by decide +kernel
theorem dL_undo_3 : decode cL_undo 3 = .ok (.invokevirtual 75, 3) := by decide +kernel
theorem dL_undo_6 : decode cL_undo 6 = .ok (.i2l, 1) := by decide +kernel
theorem dL_undo_7 : decode cL_undo 7 = .ok (.lastore, 1) := by decide +kernel
theorem dL_undo_8 : decode cL_undo 8 = .ok (.goto 6, 3) := by decide +kernel
theorem dL_undo_11 : decode cL_undo 11 = .ok (.astore_n 2, 1) := by decide +kernel
theorem dL_undo_12 : decode cL_undo 12 = .ok (.iconst 1, 1) := by decide +kernel
theorem dL_undo_13 : decode cL_undo 13 = .ok (.ireturn, 1) := by decide +kernel
theorem dL_undo_14 : decode cL_undo 14 = .ok (.iconst 0, 1) := by decide +kernel
theorem dL_undo_15 : decode cL_undo 15 = .ok (.ireturn, 1) := by decide +kernel
