set_option maxRecDepth 20000 in
theorem ggX7_init_X7_begins : GoodIn wsX7_init wsX7_begins := goodIn_r _ [15, 5, 16, 17, 18, 14, 19, 20, 21, 22, 23, 24, 25, 26, 27, 28, 29, 30, 31, 32, 33, 34, 35, 36, 37, 38, 39, 40, 41, 42, 43] (by decide +kernel) (by decide +kernel)
set_option maxRecDepth 20000 in
theorem gX7_init_X7_begins : GoodIn wsX7_init (wsV RX7 28 RX7 yX7_begins wsX7_begins) := goodIn_app (goodIn_of _ (by decide +kernel)) ggX7_init_X7_begins
theorem dX7_init_0 : decode cX7_init 0 = .ok (.aload_n 0, 1) := by decide +kernel
theorem dX7_init_1 : decode cX7_init 1 = .ok (.invokespecial 1, 3) := by decide +kernel
theorem dX7_init_4 : decode cX7_init 4 = .ok (.aload_n 0, 1) := by decide +kernel
theorem dX7_init_5 : decode cX7_init 5 = .ok (.sipush 985, 3) := by decide +kernel
theorem dX7_init_8 : decode cX7_init 8 = .ok (.newarray .int, 2) := by decide +kernel
theorem dX7_init_10 : decode cX7_init 10 = .ok (.putfield 7, 3) := by decide +kernel
theorem dX7_init_13 : decode cX7_init 13 = .ok (.aload_n 0, 1) := by decide +kernel
theorem dX7_init_14 : decode cX7_init 14 = .ok (.sipush 3940, 3) := by decide +kernel
theorem dX7_init_17 : decode cX7_init 17 = .ok (.newarray .int, 2) := by decide +kernel
theorem dX7_init_19 : decode cX7_init 19 = .ok (.putfield 13, 3) := by decide +kernel
theorem dX7_init_22 : decode cX7_init 22 = .ok (.aload_n 0, 1) := by decide +kernel
theorem dX7_init_23 : decode cX7_init 23 = .ok (.sipush 985, 3) := by decide +kernel
theorem dX7_init_26 : decode cX7_init 26 = .ok (.newarray .int, 2) := by decide +kernel
theorem dX7_init_28 : decode cX7_init 28 = .ok (.putfield 16, 3) := by decide +kernel
theorem dX7_init_31 : decode cX7_init 31 = .ok (.aload_n 0, 1) := by decide +kernel
theorem dX7_init_32 : decode cX7_init 32 = .ok (.sipush 192, 3) := by decide +kernel
theorem dX7_init_35 : decode cX7_init 35 = .ok (.newarray .int, 2) := by decide +kernel
theorem dX7_init_37 : decode cX7_init 37 = .ok (.putfield 19, 3) := by decide +kernel
theorem dX7_init_40 : decode cX7_init 40 = .ok (.aload_n 0, 1) := by decide +kernel
theorem dX7_init_41 : decode cX7_init 41 = .ok (.sipush 192, 3) := by decide +kernel
theorem dX7_init_44 : decode cX7_init 44 = .ok (.newarray .int, 2) := by decide +kernel
theorem dX7_init_46 : decode cX7_init 46 = .ok (.putfield 22, 3) := by decide +kernel
theorem dX7_init_49 : decode cX7_init 49 = .ok (.aload_n 0, 1) := by decide +kernel
theorem dX7_init_50 : decode cX7_init 50 = .ok (.sipush 220, 3) := by decide +kernel
theorem dX7_init_53 : decode cX7_init 53 = .ok (.newarray .int, 2) := by decide +kernel
theorem dX7_init_55 : decode cX7_init 55 = .ok (.putfield 25, 3) := by decide +kernel
theorem dX7_init_58 : decode cX7_init 58 = .ok (.aload_n 0, 1) := by decide +kernel
theorem dX7_init_59 : decode cX7_init 59 = .ok (.bipush 6, 2) := by decide +kernel
theorem dX7_init_61 : decode cX7_init 61 = .ok (.bipush 10, 2) := by decide +kernel
theorem dX7_init_63 : decode cX7_init 63 = .ok (.iconst 2, 1) := by decide +kernel
theorem dX7_init_64 : decode cX7_init 64 = .ok (.invokevirtual 28, 3) := by decide +kernel
theorem dX7_init_67 : decode cX7_init 67 = .ok (.return_, 1) := by decide +kernel
theorem dX7_thrown_0 : decode cX7_thrown 0 = .ok (.aload_n 0, 1) := by decide +kernel
theorem dX7_thrown_1 : decode cX7_thrown 1 = .ok (.getfield 32, 3) := by decide +kernel
theorem dX7_thrown_4 : decode cX7_thrown 4 = .ok (.ireturn, 1) := by decide +kernel
theorem dX7_in_0 : decode cX7_in 0 = .ok (.lload_n 0, 1) := by decide +kernel
theorem dX7_in_1 : decode cX7_in 1 = .ok (.lload_n 2, 1) := by decide +kernel
theorem dX7_in_2 : decode cX7_in 2 = .ok (.lcmp, 1) := by decide +kernel
theorem dX7_in_3 : decode cX7_in 3 = .ok (.ifCond .lt 14, 3) := by decide +kernel
theorem dX7_in_6 : decode cX7_in 6 = .ok (.lload_n 0, 1) := by decide +kernel
theorem dX7_in_7 : decode cX7_in 7 = .ok (.lload 4, 2) := by decide +kernel
theorem dX7_in_9 : decode cX7_in 9 = .ok (.lcmp, 1) := by decide +kernel
theorem dX7_in_10 : decode cX7_in 10 = .ok (.ifCond .gt 7, 3) := by decide +kernel
theorem dX7_in_13 : decode cX7_in 13 = .ok (.iconst 1, 1) := by decide +kernel
theorem dX7_in_14 : decode cX7_in 14 = .ok (.goto 4, 3) := by decide +kernel
theorem dX7_in_17 : decode cX7_in 17 = .ok (.iconst 0, 1) := by decide +kernel
theorem dX7_in_18 : decode cX7_in 18 = .ok (.ireturn, 1) := by decide +kernel
theorem dX7_goes_0 : decode cX7_goes 0 = .ok (.aload_n 0, 1) := by decide +kernel
theorem dX7_goes_1 : decode cX7_goes 1 = .ok (.iload_n 1, 1) := by decide +kernel
theorem dX7_goes_2 : decode cX7_goes 2 = .ok (.ifCond .ne 7, 3) := by decide +kernel
theorem dX7_goes_5 : decode cX7_goes 5 = .ok (.iconst 1, 1) := by decide +kernel
theorem dX7_goes_6 : decode cX7_goes 6 = .ok (.goto 12, 3) := by decide +kernel
theorem dX7_goes_9 : decode cX7_goes 9 = .ok (.iload_n 2, 1) := by decide +kernel
theorem dX7_goes_10 : decode cX7_goes 10 = .ok (.ifCond .ne 7, 3) := by decide +kernel
theorem dX7_goes_13 : decode cX7_goes 13 = .ok (.iconst 2, 1) := by decide +kernel
theorem dX7_goes_14 : decode cX7_goes 14 = .ok (.goto 4, 3) := by decide +kernel
theorem dX7_goes_17 : decode cX7_goes 17 = .ok (.iconst 0, 1) := by decide +kernel
theorem dX7_goes_18 : decode cX7_goes 18 = .ok (.putfield 32, 3) := by decide +kernel
theorem dX7_goes_21 : decode cX7_goes 21 = .ok (.aload_n 0, 1) := by decide +kernel
theorem dX7_goes_22 : decode cX7_goes 22 = .ok (.getfield 32, 3) := by decide +kernel
theorem dX7_goes_25 : decode cX7_goes 25 = .ok (.ifCond .ne 7, 3) := by decide +kernel
theorem dX7_goes_28 : decode cX7_goes 28 = .ok (.iconst 1, 1) := by decide +kernel
theorem dX7_goes_29 : decode cX7_goes 29 = .ok (.goto 4, 3) := by decide +kernel
theorem dX7_goes_32 : decode cX7_goes 32 = .ok (.iconst 0, 1) := by decide +kernel
theorem dX7_goes_33 : decode cX7_goes 33 = .ok (.ireturn, 1) := by decide +kernel
theorem dX7_save_0 : decode cX7_save 0 = .ok (.aload_n 0, 1) := by decide +kernel
theorem dX7_save_1 : decode cX7_save 1 = .ok (.getfield 36, 3) := by decide +kernel
theorem dX7_save_4 : decode cX7_save 4 = .ok (.iconst 4, 1) := by decide +kernel
theorem dX7_save_5 : decode cX7_save 5 = .ok (.if_icmp .ne 44, 3) := by decide +kernel
theorem dX7_save_8 : decode cX7_save 8 = .ok (.iconst 0, 1) := by decide +kernel
theorem dX7_save_9 : decode cX7_save 9 = .ok (.istore_n 1, 1) := by decide +kernel
theorem dX7_save_10 : decode cX7_save 10 = .ok (.iload_n 1, 1) := by decide +kernel
theorem dX7_save_11 : decode cX7_save 11 = .ok (.sipush 2955, 3) := by decide +kernel
theorem dX7_save_14 : decode cX7_save 14 = .ok (.if_icmp .ge 25, 3) := by decide +kernel
theorem dX7_save_17 : decode cX7_save 17 = .ok (.aload_n 0, 1) := by decide +kernel
theorem dX7_save_18 : decode cX7_save 18 = .ok (.getfield 13, 3) := by decide +kernel
theorem dX7_save_21 : decode cX7_save 21 = .ok (.iload_n 1, 1) := by decide +kernel
theorem dX7_save_22 : decode cX7_save 22 = .ok (.aload_n 0, 1) := by decide +kernel
theorem dX7_save_23 : decode cX7_save 23 = .ok (.getfield 13, 3) := by decide +kernel
theorem dX7_save_26 : decode cX7_save 26 = .ok (.iload_n 1, 1) := by decide +kernel
theorem dX7_save_27 : decode cX7_save 27 = .ok (.sipush 985, 3) := by decide +kernel
theorem dX7_save_30 : decode cX7_save 30 = .ok (.iadd, 1) := by decide +kernel
theorem dX7_save_31 : decode cX7_save 31 = .ok (.iaload, 1) := by decide +kernel
theorem dX7_save_32 : decode cX7_save 32 = .ok (.iastore, 1) := by decide +kernel
theorem dX7_save_33 : decode cX7_save 33 = .ok (.iinc 1 1, 3) := by decide +kernel
theorem dX7_save_36 : decode cX7_save 36 = .ok (.goto (-26), 3) := by decide +kernel
theorem dX7_save_39 : decode cX7_save 39 = .ok (.aload_n 0, 1) := by decide +kernel
theorem dX7_save_40 : decode cX7_save 40 = .ok (.dup, 1) := by decide +kernel
theorem dX7_save_41 : decode cX7_save 41 = .ok (.getfield 36, 3) := by decide +kernel
theorem dX7_save_44 : decode cX7_save 44 = .ok (.iconst 1, 1) := by decide +kernel
theorem dX7_save_45 : decode cX7_save 45 = .ok (.isub, 1) := by decide +kernel
theorem dX7_save_46 : decode cX7_save 46 = .ok (.putfield 36, 3) := by decide +kernel
theorem dX7_save_49 : decode cX7_save 49 = .ok (.iconst 0, 1) := by decide +kernel
theorem dX7_save_50 : decode cX7_save 50 = .ok (.istore_n 1, 1) := by decide +kernel
theorem dX7_save_51 : decode cX7_save 51 = .ok (.iload_n 1, 1) := by decide +kernel
theorem dX7_save_52 : decode cX7_save 52 = .ok (.sipush 985, 3) := by decide +kernel
theorem dX7_save_55 : decode cX7_save 55 = .ok (.if_icmp .ge 30, 3) := by decide +kernel
theorem dX7_save_58 : decode cX7_save 58 = .ok (.aload_n 0, 1) := by decide +kernel
theorem dX7_save_59 : decode cX7_save 59 = .ok (.getfield 13, 3) := by decide +kernel
theorem dX7_save_62 : decode cX7_save 62 = .ok (.sipush 985, 3) := by decide +kernel
theorem dX7_save_65 : decode cX7_save 65 = .ok (.aload_n 0, 1) := by decide +kernel
theorem dX7_save_66 : decode cX7_save 66 = .ok (.getfield 36, 3) := by decide +kernel
theorem dX7_save_69 : decode cX7_save 69 = .ok (.imul, 1) := by decide +kernel
theorem dX7_save_70 : decode cX7_save 70 = .ok (.iload_n 1, 1) := by decide +kernel
theorem dX7_save_71 : decode cX7_save 71 = .ok (.iadd, 1) := by decide +kernel
theorem dX7_save_72 : decode cX7_save 72 = .ok (.aload_n 0, 1) := by decide +kernel
theorem dX7_save_73 : decode cX7_save 73 = .ok (.getfield 7, 3) := by decide +kernel
theorem dX7_save_76 : decode cX7_save 76 = .ok (.iload_n 1, 1) := by decide +kernel
theorem dX7_save_77 : decode cX7_save 77 = .ok (.iaload, 1) := by decide +kernel
theorem dX7_save_78 : decode cX7_save 78 = .ok (.iastore, 1) := by decide +kernel
theorem dX7_save_79 : decode cX7_save 79 = .ok (.iinc 1 1, 3) := by decide +kernel
theorem dX7_save_82 : decode cX7_save 82 = .ok (.goto (-31), 3) := by decide +kernel
theorem dX7_save_85 : decode cX7_save 85 = .ok (.aload_n 0, 1) := by decide +kernel
theorem dX7_save_86 : decode cX7_save 86 = .ok (.dup, 1) := by decide +kernel
theorem dX7_save_87 : decode cX7_save 87 = .ok (.getfield 36, 3) := by decide +kernel
theorem dX7_save_90 : decode cX7_save 90 = .ok (.iconst 1, 1) := by decide +kernel
theorem dX7_save_91 : decode cX7_save 91 = .ok (.iadd, 1) := by decide +kernel
theorem dX7_save_92 : decode cX7_save 92 = .ok (.putfield 36, 3) := by decide +kernel
theorem dX7_save_95 : decode cX7_save 95 = .ok (.return_, 1) := by decide +kernel
theorem dX7_lays_0 : decode cX7_lays 0 = .ok (.iconst 0, 1) := by decide +kernel
theorem dX7_lays_1 : decode cX7_lays 1 = .ok (.istore_n 1, 1) := by decide +kernel
theorem dX7_lays_2 : decode cX7_lays 2 = .ok (.iload_n 1, 1) := by decide +kernel
theorem dX7_lays_3 : decode cX7_lays 3 = .ok (.sipush 985, 3) := by decide +kernel
theorem dX7_lays_6 : decode cX7_lays 6 = .ok (.if_icmp .ge 21, 3) := by decide +kernel
theorem dX7_lays_9 : decode cX7_lays 9 = .ok (.aload_n 0, 1) := by decide +kernel
theorem dX7_lays_10 : decode cX7_lays 10 = .ok (.getfield 16, 3) := by decide +kernel
theorem dX7_lays_13 : decode cX7_lays 13 = .ok (.iload_n 1, 1) := by decide +kernel
theorem dX7_lays_14 : decode cX7_lays 14 = .ok (.aload_n 0, 1) := by decide +kernel
theorem dX7_lays_15 : decode cX7_lays 15 = .ok (.getfield 7, 3) := by decide +kernel
theorem dX7_lays_18 : decode cX7_lays 18 = .ok (.iload_n 1, 1) := by decide +kernel
theorem dX7_lays_19 : decode cX7_lays 19 = .ok (.iaload, 1) := by decide +kernel
theorem dX7_lays_20 : decode cX7_lays 20 = .ok (.iastore, 1) := by decide +kernel
theorem dX7_lays_21 : decode cX7_lays 21 = .ok (.iinc 1 1, 3) := by decide +kernel
theorem dX7_lays_24 : decode cX7_lays 24 = .ok (.goto (-22), 3) := by decide +kernel
theorem dX7_lays_27 : decode cX7_lays 27 = .ok (.return_, 1) := by decide +kernel
theorem dX7_takesBack_0 : decode cX7_takesBack 0 = .ok (.iconst 0, 1) := by decide +kernel
theorem dX7_takesBack_1 : decode cX7_takesBack 1 = .ok (.istore_n 1, 1) := by decide +kernel
theorem dX7_takesBack_2 : decode cX7_takesBack 2 = .ok (.iload_n 1, 1) := by decide +kernel
theorem dX7_takesBack_3 : decode cX7_takesBack 3 = .ok (.sipush 985, 3) := by decide +kernel
theorem dX7_takesBack_6 : decode cX7_takesBack 6 = .ok (.if_icmp .ge 21, 3) := by decide +kernel
theorem dX7_takesBack_9 : decode cX7_takesBack 9 = .ok (.aload_n 0, 1) := by decide +kernel
theorem dX7_takesBack_10 : decode cX7_takesBack 10 = .ok (.getfield 7, 3) := by decide +kernel
theorem dX7_takesBack_13 : decode cX7_takesBack 13 = .ok (.iload_n 1, 1) := by decide +kernel
theorem dX7_takesBack_14 : decode cX7_takesBack 14 = .ok (.aload_n 0, 1) := by decide +kernel
theorem dX7_takesBack_15 : decode cX7_takesBack 15 = .ok (.getfield 16, 3) := by decide +kernel
theorem dX7_takesBack_18 : decode cX7_takesBack 18 = .ok (.iload_n 1, 1) := by decide +kernel
theorem dX7_takesBack_19 : decode cX7_takesBack 19 = .ok (.iaload, 1) := by decide +kernel
theorem dX7_takesBack_20 : decode cX7_takesBack 20 = .ok (.iastore, 1) := by decide +kernel
theorem dX7_takesBack_21 : decode cX7_takesBack 21 = .ok (.iinc 1 1, 3) := by decide +kernel
theorem dX7_takesBack_24 : decode cX7_takesBack 24 = .ok (.goto (-22), 3) := by decide +kernel
theorem dX7_takesBack_27 : decode cX7_takesBack 27 = .ok (.return_, 1) := by decide +kernel
theorem dX7_at_0 : decode cX7_at 0 = .ok (.bipush 25, 2) := by decide +kernel
theorem dX7_at_2 : decode cX7_at 2 = .ok (.iconst 5, 1) := by decide +kernel
theorem dX7_at_3 : decode cX7_at 3 = .ok (.iload_n 0, 1) := by decide +kernel
theorem dX7_at_4 : decode cX7_at 4 = .ok (.imul, 1) := by decide +kernel
theorem dX7_at_5 : decode cX7_at 5 = .ok (.iadd, 1) := by decide +kernel
theorem dX7_at_6 : decode cX7_at 6 = .ok (.iload_n 1, 1) := by decide +kernel
theorem dX7_at_7 : decode cX7_at 7 = .ok (.iadd, 1) := by decide +kernel
theorem dX7_at_8 : decode cX7_at 8 = .ok (.ireturn, 1) := by decide +kernel
set_option maxRecDepth 20000 in
theorem ggX7_of_X7_at : GoodIn wsX7_of wsX7_at := goodIn_r _ [5] (by decide +kernel) (by decide +kernel)
set_option maxRecDepth 20000 in
theorem gX7_of_X7_at : GoodIn wsX7_of (va_wsS RX7 39 yX7_at wsX7_at) := goodIn_app (goodIn_of _ (by decide +kernel)) ggX7_of_X7_at
theorem dX7_of_0 : decode cX7_of 0 = .ok (.aload_n 0, 1) := by decide +kernel
theorem dX7_of_1 : decode cX7_of 1 = .ok (.getfield 7, 3) := by decide +kernel
theorem dX7_of_4 : decode cX7_of 4 = .ok (.iload_n 1, 1) := by decide +kernel
theorem dX7_of_5 : decode cX7_of 5 = .ok (.iload_n 2, 1) := by decide +kernel
theorem dX7_of_6 : decode cX7_of 6 = .ok (.invokestatic 39, 3) := by decide +kernel
theorem dX7_of_9 : decode cX7_of 9 = .ok (.iaload, 1) := by decide +kernel
theorem dX7_of_10 : decode cX7_of 10 = .ok (.ireturn, 1) := by decide +kernel
theorem dX7_cells_0 : decode cX7_cells 0 = .ok (.aload_n 0, 1) := by decide +kernel
theorem dX7_cells_1 : decode cX7_cells 1 = .ok (.getfield 7, 3) := by decide +kernel
theorem dX7_cells_4 : decode cX7_cells 4 = .ok (.iconst 4, 1) := by decide +kernel
theorem dX7_cells_5 : decode cX7_cells 5 = .ok (.iaload, 1) := by decide +kernel
theorem dX7_cells_6 : decode cX7_cells 6 = .ok (.aload_n 0, 1) := by decide +kernel
theorem dX7_cells_7 : decode cX7_cells 7 = .ok (.getfield 7, 3) := by decide +kernel
theorem dX7_cells_10 : decode cX7_cells 10 = .ok (.iconst 5, 1) := by decide +kernel
theorem dX7_cells_11 : decode cX7_cells 11 = .ok (.iaload, 1) := by decide +kernel
theorem dX7_cells_12 : decode cX7_cells 12 = .ok (.imul, 1) := by decide +kernel
theorem dX7_cells_13 : decode cX7_cells 13 = .ok (.ireturn, 1) := by decide +kernel
set_option maxRecDepth 20000 in
theorem ggX7_isCell_X7_cells : GoodIn wsX7_isCell wsX7_cells := goodIn_r _ [5, 6, 10, 11, 12, 13, 14, 15, 16, 17, 18, 19, 20, 21, 22] (by decide +kernel) (by decide +kernel)
set_option maxRecDepth 20000 in
theorem gX7_isCell_X7_cells : GoodIn wsX7_isCell (wsV RX7 43 RX7 yX7_cells wsX7_cells) := goodIn_app (goodIn_of _ (by decide +kernel)) ggX7_isCell_X7_cells
set_option maxRecDepth 20000 in
theorem ggX7_isCell_X7_in : GoodIn wsX7_isCell wsX7_in := goodIn_r _ [9] (by decide +kernel) (by decide +kernel)
set_option maxRecDepth 20000 in
theorem gX7_isCell_X7_in : GoodIn wsX7_isCell (va_wsS RX7 47 yX7_in wsX7_in) := goodIn_app (goodIn_of _ (by decide +kernel)) ggX7_isCell_X7_in
theorem dX7_isCell_0 : decode cX7_isCell 0 = .ok (.iload_n 1, 1) := by decide +kernel
theorem dX7_isCell_1 : decode cX7_isCell 1 = .ok (.i2l, 1) := by decide +kernel
theorem dX7_isCell_2 : decode cX7_isCell 2 = .ok (.lconst 0, 1) := by decide +kernel
theorem dX7_isCell_3 : decode cX7_isCell 3 = .ok (.aload_n 0, 1) := by decide +kernel
theorem dX7_isCell_4 : decode cX7_isCell 4 = .ok (.invokevirtual 43, 3) := by decide +kernel
theorem dX7_isCell_7 : decode cX7_isCell 7 = .ok (.i2l, 1) := by decide +kernel
theorem dX7_isCell_8 : decode cX7_isCell 8 = .ok (.lconst 1, 1) := by decide +kernel
theorem dX7_isCell_9 : decode cX7_isCell 9 = .ok (.lsub, 1) := by decide +kernel
theorem dX7_isCell_10 : decode cX7_isCell 10 = .ok (.invokestatic 47, 3) := by decide +kernel
theorem dX7_isCell_13 : decode cX7_isCell 13 = .ok (.ireturn, 1) := by decide +kernel
set_option maxRecDepth 20000 in
theorem ggX7_clears_X7_cells : GoodIn wsX7_clears wsX7_cells := goodIn_r _ [6, 1, 10, 11, 12, 13, 14, 15, 16, 17, 18, 19, 20, 21, 22] (by decide +kernel) (by decide +kernel)
set_option maxRecDepth 20000 in
theorem gX7_clears_X7_cells : GoodIn wsX7_clears (wsV RX7 43 RX7 yX7_cells wsX7_cells) := goodIn_app (goodIn_of _ (by decide +kernel)) ggX7_clears_X7_cells
set_option maxRecDepth 20000 in
theorem ggX7_clears_X7_at : GoodIn wsX7_clears wsX7_at := goodIn_r _ [9] (by decide +kernel) (by decide +kernel)
set_option maxRecDepth 20000 in
theorem gX7_clears_X7_at : GoodIn wsX7_clears (va_wsS RX7 39 yX7_at wsX7_at) := goodIn_app (goodIn_of _ (by decide +kernel)) ggX7_clears_X7_at
theorem dX7_clears_0 : decode cX7_clears 0 = .ok (.bipush 8, 2) := by decide +kernel
theorem dX7_clears_2 : decode cX7_clears 2 = .ok (.istore_n 3, 1) := by decide +kernel
theorem dX7_clears_3 : decode cX7_clears 3 = .ok (.iload_n 3, 1) := by decide +kernel
theorem dX7_clears_4 : decode cX7_clears 4 = .ok (.sipush 985, 3) := by decide +kernel
theorem dX7_clears_7 : decode cX7_clears 7 = .ok (.if_icmp .ge 16, 3) := by decide +kernel
theorem dX7_clears_10 : decode cX7_clears 10 = .ok (.aload_n 0, 1) := by decide +kernel
theorem dX7_clears_11 : decode cX7_clears 11 = .ok (.getfield 7, 3) := by decide +kernel
theorem dX7_clears_14 : decode cX7_clears 14 = .ok (.iload_n 3, 1) := by decide +kernel
theorem dX7_clears_15 : decode cX7_clears 15 = .ok (.iconst 0, 1) := by decide +kernel
theorem dX7_clears_16 : decode cX7_clears 16 = .ok (.iastore, 1) := by decide +kernel
theorem dX7_clears_17 : decode cX7_clears 17 = .ok (.iinc 3 1, 3) := by decide +kernel
theorem dX7_clears_20 : decode cX7_clears 20 = .ok (.goto (-17), 3) := by decide +kernel
theorem dX7_clears_23 : decode cX7_clears 23 = .ok (.aload_n 0, 1) := by decide +kernel
theorem dX7_clears_24 : decode cX7_clears 24 = .ok (.getfield 7, 3) := by decide +kernel
theorem dX7_clears_27 : decode cX7_clears 27 = .ok (.iconst 4, 1) := by decide +kernel
theorem dX7_clears_28 : decode cX7_clears 28 = .ok (.iload_n 1, 1) := by decide +kernel
theorem dX7_clears_29 : decode cX7_clears 29 = .ok (.iastore, 1) := by decide +kernel
theorem dX7_clears_30 : decode cX7_clears 30 = .ok (.aload_n 0, 1) := by decide +kernel
theorem dX7_clears_31 : decode cX7_clears 31 = .ok (.getfield 7, 3) := by decide +kernel
theorem dX7_clears_34 : decode cX7_clears 34 = .ok (.iconst 5, 1) := by decide +kernel
theorem dX7_clears_35 : decode cX7_clears 35 = .ok (.iload_n 2, 1) := by decide +kernel
theorem dX7_clears_36 : decode cX7_clears 36 = .ok (.iastore, 1) := by decide +kernel
theorem dX7_clears_37 : decode cX7_clears 37 = .ok (.bipush 21, 2) := by decide +kernel
theorem dX7_clears_39 : decode cX7_clears 39 = .ok (.istore_n 3, 1) := by decide +kernel
theorem dX7_clears_40 : decode cX7_clears 40 = .ok (.iload_n 3, 1) := by decide +kernel
theorem dX7_clears_41 : decode cX7_clears 41 = .ok (.bipush 25, 2) := by decide +kernel
theorem dX7_clears_43 : decode cX7_clears 43 = .ok (.if_icmp .ge 16, 3) := by decide +kernel
theorem dX7_clears_46 : decode cX7_clears 46 = .ok (.aload_n 0, 1) := by decide +kernel
theorem dX7_clears_47 : decode cX7_clears 47 = .ok (.getfield 7, 3) := by decide +kernel
theorem dX7_clears_50 : decode cX7_clears 50 = .ok (.iload_n 3, 1) := by decide +kernel
theorem dX7_clears_51 : decode cX7_clears 51 = .ok (.iconst (-1), 1) := by decide +kernel
theorem dX7_clears_52 : decode cX7_clears 52 = .ok (.iastore, 1) := by decide +kernel
theorem dX7_clears_53 : decode cX7_clears 53 = .ok (.iinc 3 1, 3) := by decide +kernel
theorem dX7_clears_56 : decode cX7_clears 56 = .ok (.goto (-16), 3) := by decide +kernel
theorem dX7_clears_59 : decode cX7_clears 59 = .ok (.iconst 0, 1) := by decide +kernel
theorem dX7_clears_60 : decode cX7_clears 60 = .ok (.istore_n 3, 1) := by decide +kernel
theorem dX7_clears_61 : decode cX7_clears 61 = .ok (.iload_n 3, 1) := by decide +kernel
theorem dX7_clears_62 : decode cX7_clears 62 = .ok (.aload_n 0, 1) := by decide +kernel
theorem dX7_clears_63 : decode cX7_clears 63 = .ok (.invokevirtual 43, 3) := by decide +kernel
theorem dX7_clears_66 : decode cX7_clears 66 = .ok (.if_icmp .ge 31, 3) := by decide +kernel
theorem dX7_clears_69 : decode cX7_clears 69 = .ok (.aload_n 0, 1) := by decide +kernel
theorem dX7_clears_70 : decode cX7_clears 70 = .ok (.getfield 7, 3) := by decide +kernel
theorem dX7_clears_73 : decode cX7_clears 73 = .ok (.iload_n 3, 1) := by decide +kernel
theorem dX7_clears_74 : decode cX7_clears 74 = .ok (.iconst 2, 1) := by decide +kernel
theorem dX7_clears_75 : decode cX7_clears 75 = .ok (.invokestatic 39, 3) := by decide +kernel
theorem dX7_clears_78 : decode cX7_clears 78 = .ok (.iconst (-1), 1) := by decide +kernel
theorem dX7_clears_79 : decode cX7_clears 79 = .ok (.iastore, 1) := by decide +kernel
theorem dX7_clears_80 : decode cX7_clears 80 = .ok (.aload_n 0, 1) := by decide +kernel
theorem dX7_clears_81 : decode cX7_clears 81 = .ok (.getfield 7, 3) := by decide +kernel
theorem dX7_clears_84 : decode cX7_clears 84 = .ok (.iload_n 3, 1) := by decide +kernel
theorem dX7_clears_85 : decode cX7_clears 85 = .ok (.iconst 3, 1) := by decide +kernel
theorem dX7_clears_86 : decode cX7_clears 86 = .ok (.invokestatic 39, 3) := by decide +kernel
theorem dX7_clears_89 : decode cX7_clears 89 = .ok (.iconst (-1), 1) := by decide +kernel
theorem dX7_clears_90 : decode cX7_clears 90 = .ok (.iastore, 1) := by decide +kernel
theorem dX7_clears_91 : decode cX7_clears 91 = .ok (.iinc 3 1, 3) := by decide +kernel
theorem dX7_clears_94 : decode cX7_clears 94 = .ok (.goto (-33), 3) := by decide +kernel
theorem dX7_clears_97 : decode cX7_clears 97 = .ok (.return_, 1) := by decide +kernel
set_option maxRecDepth 20000 in
theorem ggX7_heightens_X7_at : GoodIn wsX7_heightens wsX7_at := goodIn_r _ [5] (by decide +kernel) (by decide +kernel)
set_option maxRecDepth 20000 in
theorem gX7_heightens_X7_at : GoodIn wsX7_heightens (va_wsS RX7 39 yX7_at wsX7_at) := goodIn_app (goodIn_of _ (by decide +kernel)) ggX7_heightens_X7_at
theorem dX7_heightens_0 : decode cX7_heightens 0 = .ok (.aload_n 0, 1) := by decide +kernel
theorem dX7_heightens_1 : decode cX7_heightens 1 = .ok (.getfield 7, 3) := by decide +kernel
theorem dX7_heightens_4 : decode cX7_heightens 4 = .ok (.iload_n 1, 1) := by decide +kernel
theorem dX7_heightens_5 : decode cX7_heightens 5 = .ok (.iconst 0, 1) := by decide +kernel
theorem dX7_heightens_6 : decode cX7_heightens 6 = .ok (.invokestatic 39, 3) := by decide +kernel
theorem dX7_heightens_9 : decode cX7_heightens 9 = .ok (.iload_n 2, 1) := by decide +kernel
theorem dX7_heightens_10 : decode cX7_heightens 10 = .ok (.iastore, 1) := by decide +kernel
theorem dX7_heightens_11 : decode cX7_heightens 11 = .ok (.aload_n 0, 1) := by decide +kernel
theorem dX7_heightens_12 : decode cX7_heightens 12 = .ok (.getfield 7, 3) := by decide +kernel
theorem dX7_heightens_15 : decode cX7_heightens 15 = .ok (.iload_n 1, 1) := by decide +kernel
theorem dX7_heightens_16 : decode cX7_heightens 16 = .ok (.iconst 4, 1) := by decide +kernel
theorem dX7_heightens_17 : decode cX7_heightens 17 = .ok (.invokestatic 39, 3) := by decide +kernel
theorem dX7_heightens_20 : decode cX7_heightens 20 = .ok (.iload_n 2, 1) := by decide +kernel
theorem dX7_heightens_21 : decode cX7_heightens 21 = .ok (.iastore, 1) := by decide +kernel
theorem dX7_heightens_22 : decode cX7_heightens 22 = .ok (.return_, 1) := by decide +kernel
set_option maxRecDepth 20000 in
theorem ggX7_begins_X7_clears : GoodIn wsX7_begins wsX7_clears := goodIn_r _ [6, 1, 7, 8, 9, 5, 10, 11, 12, 13, 18, 19, 20, 21, 22, 23, 24, 25, 26, 27, 28, 29, 30] (by decide +kernel) (by decide +kernel)
set_option maxRecDepth 20000 in
theorem gX7_begins_X7_clears : GoodIn wsX7_begins (wsV RX7 51 RX7 yX7_clears wsX7_clears) := goodIn_app (goodIn_of _ (by decide +kernel)) ggX7_begins_X7_clears
set_option maxRecDepth 20000 in
theorem ggX7_begins_X7_cells : GoodIn wsX7_begins wsX7_cells := goodIn_r _ [10, 1, 18, 19, 20, 21, 22, 23, 24, 25, 26, 27, 28, 29, 30] (by decide +kernel) (by decide +kernel)
set_option maxRecDepth 20000 in
theorem gX7_begins_X7_cells : GoodIn wsX7_begins (wsV RX7 43 RX7 yX7_cells wsX7_cells) := goodIn_app (goodIn_of _ (by decide +kernel)) ggX7_begins_X7_cells
set_option maxRecDepth 20000 in
theorem ggX7_begins_X7_heightens : GoodIn wsX7_begins wsX7_heightens := goodIn_r _ [17, 1, 11, 12, 5, 13, 18, 19, 20, 21, 22, 23, 24, 25, 26, 27, 28, 29, 30] (by decide +kernel) (by decide +kernel)
set_option maxRecDepth 20000 in
theorem gX7_begins_X7_heightens : GoodIn wsX7_begins (wsV RX7 55 RX7 yX7_heightens wsX7_heightens) := goodIn_app (goodIn_of _ (by decide +kernel)) ggX7_begins_X7_heightens
theorem dX7_begins_0 : decode cX7_begins 0 = .ok (.aload_n 0, 1) := by decide +kernel
theorem dX7_begins_1 : decode cX7_begins 1 = .ok (.iload_n 1, 1) := by decide +kernel
theorem dX7_begins_2 : decode cX7_begins 2 = .ok (.iload_n 2, 1) := by decide +kernel
theorem dX7_begins_3 : decode cX7_begins 3 = .ok (.invokevirtual 51, 3) := by decide +kernel
theorem dX7_begins_6 : decode cX7_begins 6 = .ok (.aload_n 0, 1) := by decide +kernel
theorem dX7_begins_7 : decode cX7_begins 7 = .ok (.getfield 7, 3) := by decide +kernel
theorem dX7_begins_10 : decode cX7_begins 10 = .ok (.iconst 0, 1) := by decide +kernel
theorem dX7_begins_11 : decode cX7_begins 11 = .ok (.iconst 3, 1) := by decide +kernel
theorem dX7_begins_12 : decode cX7_begins 12 = .ok (.iastore, 1) := by decide +kernel
theorem dX7_begins_13 : decode cX7_begins 13 = .ok (.aload_n 0, 1) := by decide +kernel
theorem dX7_begins_14 : decode cX7_begins 14 = .ok (.getfield 7, 3) := by decide +kernel
theorem dX7_begins_17 : decode cX7_begins 17 = .ok (.iconst 1, 1) := by decide +kernel
theorem dX7_begins_18 : decode cX7_begins 18 = .ok (.bipush 60, 2) := by decide +kernel
theorem dX7_begins_20 : decode cX7_begins 20 = .ok (.iastore, 1) := by decide +kernel
theorem dX7_begins_21 : decode cX7_begins 21 = .ok (.aload_n 0, 1) := by decide +kernel
theorem dX7_begins_22 : decode cX7_begins 22 = .ok (.getfield 7, 3) := by decide +kernel
theorem dX7_begins_25 : decode cX7_begins 25 = .ok (.iconst 2, 1) := by decide +kernel
theorem dX7_begins_26 : decode cX7_begins 26 = .ok (.bipush 40, 2) := by decide +kernel
theorem dX7_begins_28 : decode cX7_begins 28 = .ok (.iastore, 1) := by decide +kernel
theorem dX7_begins_29 : decode cX7_begins 29 = .ok (.aload_n 0, 1) := by decide +kernel
theorem dX7_begins_30 : decode cX7_begins 30 = .ok (.getfield 7, 3) := by decide +kernel
theorem dX7_begins_33 : decode cX7_begins 33 = .ok (.iconst 3, 1) := by decide +kernel
theorem dX7_begins_34 : decode cX7_begins 34 = .ok (.iconst 2, 1) := by decide +kernel
theorem dX7_begins_35 : decode cX7_begins 35 = .ok (.iastore, 1) := by decide +kernel
theorem dX7_begins_36 : decode cX7_begins 36 = .ok (.aload_n 0, 1) := by decide +kernel
theorem dX7_begins_37 : decode cX7_begins 37 = .ok (.getfield 7, 3) := by decide +kernel
theorem dX7_begins_40 : decode cX7_begins 40 = .ok (.bipush 6, 2) := by decide +kernel
theorem dX7_begins_42 : decode cX7_begins 42 = .ok (.iconst 0, 1) := by decide +kernel
theorem dX7_begins_43 : decode cX7_begins 43 = .ok (.iastore, 1) := by decide +kernel
theorem dX7_begins_44 : decode cX7_begins 44 = .ok (.aload_n 0, 1) := by decide +kernel
theorem dX7_begins_45 : decode cX7_begins 45 = .ok (.getfield 7, 3) := by decide +kernel
theorem dX7_begins_48 : decode cX7_begins 48 = .ok (.bipush 7, 2) := by decide +kernel
theorem dX7_begins_50 : decode cX7_begins 50 = .ok (.iconst 1, 1) := by decide +kernel
theorem dX7_begins_51 : decode cX7_begins 51 = .ok (.iastore, 1) := by decide +kernel
theorem dX7_begins_52 : decode cX7_begins 52 = .ok (.iconst 0, 1) := by decide +kernel
theorem dX7_begins_53 : decode cX7_begins 53 = .ok (.istore 4, 2) := by decide +kernel
theorem dX7_begins_55 : decode cX7_begins 55 = .ok (.iload 4, 2) := by decide +kernel
theorem dX7_begins_57 : decode cX7_begins 57 = .ok (.aload_n 0, 1) := by decide +kernel
theorem dX7_begins_58 : decode cX7_begins 58 = .ok (.invokevirtual 43, 3) := by decide +kernel
theorem dX7_begins_61 : decode cX7_begins 61 = .ok (.if_icmp .ge 16, 3) := by decide +kernel
theorem dX7_begins_64 : decode cX7_begins 64 = .ok (.aload_n 0, 1) := by decide +kernel
theorem dX7_begins_65 : decode cX7_begins 65 = .ok (.iload 4, 2) := by decide +kernel
theorem dX7_begins_67 : decode cX7_begins 67 = .ok (.iload_n 3, 1) := by decide +kernel
theorem dX7_begins_68 : decode cX7_begins 68 = .ok (.invokevirtual 55, 3) := by decide +kernel
theorem dX7_begins_71 : decode cX7_begins 71 = .ok (.iinc 4 1, 3) := by decide +kernel
theorem dX7_begins_74 : decode cX7_begins 74 = .ok (.goto (-19), 3) := by decide +kernel
theorem dX7_begins_77 : decode cX7_begins 77 = .ok (.return_, 1) := by decide +kernel
set_option maxRecDepth 20000 in
theorem ggX7_begin_X7_in : GoodIn wsX7_begin wsX7_in := goodIn_r _ [8] (by decide +kernel) (by decide +kernel)
set_option maxRecDepth 20000 in
theorem gX7_begin_X7_in : GoodIn wsX7_begin (va_wsS RX7 47 yX7_in wsX7_in) := goodIn_app (goodIn_of _ (by decide +kernel)) ggX7_begin_X7_in
set_option maxRecDepth 20000 in
theorem ggX7_begin_X7_goes : GoodIn wsX7_begin wsX7_goes := goodIn_r _ [12, 13, 40, 41, 42, 43, 44, 45, 46, 47, 48, 49, 50, 51, 52] (by decide +kernel) (by decide +kernel)
set_option maxRecDepth 20000 in
theorem gX7_begin_X7_goes : GoodIn wsX7_begin (wsV RX7 66 RX7 yX7_goes wsX7_goes) := goodIn_app (goodIn_of _ (by decide +kernel)) ggX7_begin_X7_goes
set_option maxRecDepth 20000 in
theorem ggX7_begin_X7_save : GoodIn wsX7_begin wsX7_save := goodIn_r _ [17, 18, 19, 20, 40, 41, 42, 43, 44, 45, 46, 47, 48, 49, 50, 51, 52] (by decide +kernel) (by decide +kernel)
set_option maxRecDepth 20000 in
theorem gX7_begin_X7_save : GoodIn wsX7_begin (wsV RX7 70 RX7 yX7_save wsX7_save) := goodIn_app (goodIn_of _ (by decide +kernel)) ggX7_begin_X7_save
set_option maxRecDepth 20000 in
theorem ggX7_begin_X7_begins : GoodIn wsX7_begin wsX7_begins := goodIn_r _ [24, 20, 25, 26, 27, 7, 28, 29, 30, 31, 32, 33, 34, 35, 36, 37, 38, 39, 40, 41, 42, 43, 44, 45, 46, 47, 48, 49, 50, 51, 52] (by decide +kernel) (by decide +kernel)
set_option maxRecDepth 20000 in
theorem gX7_begin_X7_begins : GoodIn wsX7_begin (wsV RX7 28 RX7 yX7_begins wsX7_begins) := goodIn_app (goodIn_of _ (by decide +kernel)) ggX7_begin_X7_begins
set_option maxRecDepth 20000 in
theorem ggX7_begin_X7_cells : GoodIn wsX7_begin wsX7_cells := goodIn_r _ [32, 20, 40, 41, 42, 43, 44, 45, 46, 47, 48, 49, 50, 51, 52] (by decide +kernel) (by decide +kernel)
set_option maxRecDepth 20000 in
theorem gX7_begin_X7_cells : GoodIn wsX7_begin (wsV RX7 43 RX7 yX7_cells wsX7_cells) := goodIn_app (goodIn_of _ (by decide +kernel)) ggX7_begin_X7_cells
theorem dX7_begin_0 : decode cX7_begin 0 = .ok (.aload_n 0, 1) := by decide +kernel
theorem dX7_begin_1 : decode cX7_begin 1 = .ok (.iload_n 1, 1) := by decide +kernel
theorem dX7_begin_2 : decode cX7_begin 2 = .ok (.i2l, 1) := by decide +kernel
theorem dX7_begin_3 : decode cX7_begin 3 = .ok (.ldc2_w 58, 3) := by decide +kernel
theorem dX7_begin_6 : decode cX7_begin 6 = .ok (.ldc2_w 60, 3) := by decide +kernel
theorem dX7_begin_9 : decode cX7_begin 9 = .ok (.invokestatic 47, 3) := by decide +kernel
theorem dX7_begin_12 : decode cX7_begin 12 = .ok (.ifCond .eq 33, 3) := by decide +kernel
theorem dX7_begin_15 : decode cX7_begin 15 = .ok (.iload_n 2, 1) := by decide +kernel
theorem dX7_begin_16 : decode cX7_begin 16 = .ok (.i2l, 1) := by decide +kernel
theorem dX7_begin_17 : decode cX7_begin 17 = .ok (.ldc2_w 58, 3) := by decide +kernel
theorem dX7_begin_20 : decode cX7_begin 20 = .ok (.ldc2_w 62, 3) := by decide +kernel
theorem dX7_begin_23 : decode cX7_begin 23 = .ok (.invokestatic 47, 3) := by decide +kernel
theorem dX7_begin_26 : decode cX7_begin 26 = .ok (.ifCond .eq 19, 3) := by decide +kernel
theorem dX7_begin_29 : decode cX7_begin 29 = .ok (.iload_n 3, 1) := by decide +kernel
theorem dX7_begin_30 : decode cX7_begin 30 = .ok (.i2l, 1) := by decide +kernel
theorem dX7_begin_31 : decode cX7_begin 31 = .ok (.lconst 0, 1) := by decide +kernel
theorem dX7_begin_32 : decode cX7_begin 32 = .ok (.ldc2_w 64, 3) := by decide +kernel
theorem dX7_begin_35 : decode cX7_begin 35 = .ok (.invokestatic 47, 3) := by decide +kernel
theorem dX7_begin_38 : decode cX7_begin 38 = .ok (.ifCond .eq 7, 3) := by decide +kernel
theorem dX7_begin_41 : decode cX7_begin 41 = .ok (.iconst 1, 1) := by decide +kernel
theorem dX7_begin_42 : decode cX7_begin 42 = .ok (.goto 4, 3) := by decide +kernel
theorem dX7_begin_45 : decode cX7_begin 45 = .ok (.iconst 0, 1) := by decide +kernel
theorem dX7_begin_46 : decode cX7_begin 46 = .ok (.iconst 1, 1) := by decide +kernel
theorem dX7_begin_47 : decode cX7_begin 47 = .ok (.invokevirtual 66, 3) := by decide +kernel
theorem dX7_begin_50 : decode cX7_begin 50 = .ok (.ifCond .ne 5, 3) := by decide +kernel
theorem dX7_begin_53 : decode cX7_begin 53 = .ok (.iconst 0, 1) := by decide +kernel
theorem dX7_begin_54 : decode cX7_begin 54 = .ok (.ireturn, 1) := by decide +kernel
theorem dX7_begin_55 : decode cX7_begin 55 = .ok (.aload_n 0, 1) := by decide +kernel
theorem dX7_begin_56 : decode cX7_begin 56 = .ok (.invokevirtual 70, 3) := by decide +kernel
theorem dX7_begin_59 : decode cX7_begin 59 = .ok (.aload_n 0, 1) := by decide +kernel
theorem dX7_begin_60 : decode cX7_begin 60 = .ok (.iload_n 1, 1) := by decide +kernel
theorem dX7_begin_61 : decode cX7_begin 61 = .ok (.iload_n 2, 1) := by decide +kernel
theorem dX7_begin_62 : decode cX7_begin 62 = .ok (.iload_n 3, 1) := by decide +kernel
theorem dX7_begin_63 : decode cX7_begin 63 = .ok (.invokevirtual 28, 3) := by decide +kernel
theorem dX7_begin_66 : decode cX7_begin 66 = .ok (.aload_n 0, 1) := by decide +kernel
theorem dX7_begin_67 : decode cX7_begin 67 = .ok (.invokevirtual 43, 3) := by decide +kernel
theorem dX7_begin_70 : decode cX7_begin 70 = .ok (.ireturn, 1) := by decide +kernel
set_option maxRecDepth 20000 in
theorem ggX7_setHeight_X7_isCell : GoodIn wsX7_setHeight wsX7_isCell := goodIn_r _ [6, 7, 8, 9, 5, 10, 11, 12, 13, 14, 37, 38, 39, 40, 41, 42, 43, 44, 45, 46, 47, 48, 49] (by decide +kernel) (by decide +kernel)
set_option maxRecDepth 20000 in
theorem gX7_setHeight_X7_isCell : GoodIn wsX7_setHeight (wsV RX7 73 RX7 yX7_isCell wsX7_isCell) := goodIn_app (goodIn_of _ (by decide +kernel)) ggX7_setHeight_X7_isCell
set_option maxRecDepth 20000 in
theorem ggX7_setHeight_X7_in : GoodIn wsX7_setHeight wsX7_in := goodIn_r _ [14] (by decide +kernel) (by decide +kernel)
set_option maxRecDepth 20000 in
theorem gX7_setHeight_X7_in : GoodIn wsX7_setHeight (va_wsS RX7 47 yX7_in wsX7_in) := goodIn_app (goodIn_of _ (by decide +kernel)) ggX7_setHeight_X7_in
set_option maxRecDepth 20000 in
theorem ggX7_setHeight_X7_goes : GoodIn wsX7_setHeight wsX7_goes := goodIn_r _ [18, 19, 37, 38, 39, 40, 41, 42, 43, 44, 45, 46, 47, 48, 49] (by decide +kernel) (by decide +kernel)
set_option maxRecDepth 20000 in
theorem gX7_setHeight_X7_goes : GoodIn wsX7_setHeight (wsV RX7 66 RX7 yX7_goes wsX7_goes) := goodIn_app (goodIn_of _ (by decide +kernel)) ggX7_setHeight_X7_goes
set_option maxRecDepth 20000 in
theorem ggX7_setHeight_X7_save : GoodIn wsX7_setHeight wsX7_save := goodIn_r _ [23, 24, 25, 11, 37, 38, 39, 40, 41, 42, 43, 44, 45, 46, 47, 48, 49] (by decide +kernel) (by decide +kernel)
set_option maxRecDepth 20000 in
theorem gX7_setHeight_X7_save : GoodIn wsX7_setHeight (wsV RX7 70 RX7 yX7_save wsX7_save) := goodIn_app (goodIn_of _ (by decide +kernel)) ggX7_setHeight_X7_save
set_option maxRecDepth 20000 in
theorem ggX7_setHeight_X7_of : GoodIn wsX7_setHeight wsX7_of := goodIn_r _ [29, 11, 30, 31, 5, 32, 37, 38, 39, 40, 41, 42, 43, 44, 45, 46, 47, 48, 49] (by decide +kernel) (by decide +kernel)
set_option maxRecDepth 20000 in
theorem gX7_setHeight_X7_of : GoodIn wsX7_setHeight (wsV RX7 79 RX7 yX7_of wsX7_of) := goodIn_app (goodIn_of _ (by decide +kernel)) ggX7_setHeight_X7_of
set_option maxRecDepth 20000 in
theorem ggX7_setHeight_X7_heightens : GoodIn wsX7_setHeight wsX7_heightens := goodIn_r _ [36, 11, 30, 31, 5, 32, 37, 38, 39, 40, 41, 42, 43, 44, 45, 46, 47, 48, 49] (by decide +kernel) (by decide +kernel)
set_option maxRecDepth 20000 in
theorem gX7_setHeight_X7_heightens : GoodIn wsX7_setHeight (wsV RX7 55 RX7 yX7_heightens wsX7_heightens) := goodIn_app (goodIn_of _ (by decide +kernel)) ggX7_setHeight_X7_heightens
theorem dX7_setHeight_0 : decode cX7_setHeight 0 = .ok (.aload_n 0, 1) := by decide +kernel
theorem dX7_setHeight_1 : decode cX7_setHeight 1 = .ok (.aload_n 0, 1) := by decide +kernel
theorem dX7_setHeight_2 : decode cX7_setHeight 2 = .ok (.iload_n 1, 1) := by decide +kernel
theorem dX7_setHeight_3 : decode cX7_setHeight 3 = .ok (.invokevirtual 73, 3) := by decide +kernel
theorem dX7_setHeight_6 : decode cX7_setHeight 6 = .ok (.iload_n 2, 1) := by decide +kernel
theorem dX7_setHeight_7 : decode cX7_setHeight 7 = .ok (.i2l, 1) := by decide +kernel
theorem dX7_setHeight_8 : decode cX7_setHeight 8 = .ok (.lconst 0, 1) := by decide +kernel
theorem dX7_setHeight_9 : decode cX7_setHeight 9 = .ok (.ldc2_w 77, 3) := by decide +kernel
theorem dX7_setHeight_12 : decode cX7_setHeight 12 = .ok (.invokestatic 47, 3) := by decide +kernel
theorem dX7_setHeight_15 : decode cX7_setHeight 15 = .ok (.invokevirtual 66, 3) := by decide +kernel
theorem dX7_setHeight_18 : decode cX7_setHeight 18 = .ok (.ifCond .ne 5, 3) := by decide +kernel
theorem dX7_setHeight_21 : decode cX7_setHeight 21 = .ok (.iconst 0, 1) := by decide +kernel
theorem dX7_setHeight_22 : decode cX7_setHeight 22 = .ok (.ireturn, 1) := by decide +kernel
theorem dX7_setHeight_23 : decode cX7_setHeight 23 = .ok (.aload_n 0, 1) := by decide +kernel
theorem dX7_setHeight_24 : decode cX7_setHeight 24 = .ok (.invokevirtual 70, 3) := by decide +kernel
theorem dX7_setHeight_27 : decode cX7_setHeight 27 = .ok (.aload_n 0, 1) := by decide +kernel
theorem dX7_setHeight_28 : decode cX7_setHeight 28 = .ok (.iload_n 1, 1) := by decide +kernel
theorem dX7_setHeight_29 : decode cX7_setHeight 29 = .ok (.iconst 0, 1) := by decide +kernel
theorem dX7_setHeight_30 : decode cX7_setHeight 30 = .ok (.invokevirtual 79, 3) := by decide +kernel
theorem dX7_setHeight_33 : decode cX7_setHeight 33 = .ok (.istore_n 3, 1) := by decide +kernel
theorem dX7_setHeight_34 : decode cX7_setHeight 34 = .ok (.aload_n 0, 1) := by decide +kernel
theorem dX7_setHeight_35 : decode cX7_setHeight 35 = .ok (.iload_n 1, 1) := by decide +kernel
theorem dX7_setHeight_36 : decode cX7_setHeight 36 = .ok (.iload_n 2, 1) := by decide +kernel
theorem dX7_setHeight_37 : decode cX7_setHeight 37 = .ok (.invokevirtual 55, 3) := by decide +kernel
theorem dX7_setHeight_40 : decode cX7_setHeight 40 = .ok (.iload_n 3, 1) := by decide +kernel
theorem dX7_setHeight_41 : decode cX7_setHeight 41 = .ok (.ireturn, 1) := by decide +kernel
set_option maxRecDepth 20000 in
theorem ggX7_setTuft_X7_isCell : GoodIn wsX7_setTuft wsX7_isCell := goodIn_r _ [7, 8, 9, 10, 6, 11, 2, 12, 13, 14, 33, 34, 35, 36, 37, 38, 39, 40, 41, 42, 43, 44, 45] (by decide +kernel) (by decide +kernel)
set_option maxRecDepth 20000 in
theorem gX7_setTuft_X7_isCell : GoodIn wsX7_setTuft (wsV RX7 73 RX7 yX7_isCell wsX7_isCell) := goodIn_app (goodIn_of _ (by decide +kernel)) ggX7_setTuft_X7_isCell
set_option maxRecDepth 20000 in
theorem ggX7_setTuft_X7_in : GoodIn wsX7_setTuft wsX7_in := goodIn_r _ [14] (by decide +kernel) (by decide +kernel)
set_option maxRecDepth 20000 in
theorem gX7_setTuft_X7_in : GoodIn wsX7_setTuft (va_wsS RX7 47 yX7_in wsX7_in) := goodIn_app (goodIn_of _ (by decide +kernel)) ggX7_setTuft_X7_in
set_option maxRecDepth 20000 in
theorem ggX7_setTuft_X7_goes : GoodIn wsX7_setTuft wsX7_goes := goodIn_r _ [18, 19, 33, 34, 35, 36, 37, 38, 39, 40, 41, 42, 43, 44, 45] (by decide +kernel) (by decide +kernel)
set_option maxRecDepth 20000 in
theorem gX7_setTuft_X7_goes : GoodIn wsX7_setTuft (wsV RX7 66 RX7 yX7_goes wsX7_goes) := goodIn_app (goodIn_of _ (by decide +kernel)) ggX7_setTuft_X7_goes
set_option maxRecDepth 20000 in
theorem ggX7_setTuft_X7_save : GoodIn wsX7_setTuft wsX7_save := goodIn_r _ [23, 24, 25, 2, 33, 34, 35, 36, 37, 38, 39, 40, 41, 42, 43, 44, 45] (by decide +kernel) (by decide +kernel)
set_option maxRecDepth 20000 in
theorem gX7_setTuft_X7_save : GoodIn wsX7_setTuft (wsV RX7 70 RX7 yX7_save wsX7_save) := goodIn_app (goodIn_of _ (by decide +kernel)) ggX7_setTuft_X7_save
set_option maxRecDepth 20000 in
theorem ggX7_setTuft_X7_of : GoodIn wsX7_setTuft wsX7_of := goodIn_r _ [29, 2, 30, 31, 6, 32, 33, 34, 35, 36, 37, 38, 39, 40, 41, 42, 43, 44, 45] (by decide +kernel) (by decide +kernel)
set_option maxRecDepth 20000 in
theorem gX7_setTuft_X7_of : GoodIn wsX7_setTuft (wsV RX7 79 RX7 yX7_of wsX7_of) := goodIn_app (goodIn_of _ (by decide +kernel)) ggX7_setTuft_X7_of
set_option maxRecDepth 20000 in
theorem ggX7_setTuft_X7_at : GoodIn wsX7_setTuft wsX7_at := goodIn_r _ [32] (by decide +kernel) (by decide +kernel)
set_option maxRecDepth 20000 in
theorem gX7_setTuft_X7_at : GoodIn wsX7_setTuft (va_wsS RX7 39 yX7_at wsX7_at) := goodIn_app (goodIn_of _ (by decide +kernel)) ggX7_setTuft_X7_at
theorem dX7_setTuft_0 : decode cX7_setTuft 0 = .ok (.aload_n 0, 1) := by decide +kernel
theorem dX7_setTuft_1 : decode cX7_setTuft 1 = .ok (.aload_n 0, 1) := by decide +kernel
theorem dX7_setTuft_2 : decode cX7_setTuft 2 = .ok (.iload_n 1, 1) := by decide +kernel
theorem dX7_setTuft_3 : decode cX7_setTuft 3 = .ok (.invokevirtual 73, 3) := by decide +kernel
theorem dX7_setTuft_6 : decode cX7_setTuft 6 = .ok (.iload_n 2, 1) := by decide +kernel
theorem dX7_setTuft_7 : decode cX7_setTuft 7 = .ok (.i2l, 1) := by decide +kernel
theorem dX7_setTuft_8 : decode cX7_setTuft 8 = .ok (.lconst 0, 1) := by decide +kernel
theorem dX7_setTuft_9 : decode cX7_setTuft 9 = .ok (.ldc2_w 82, 3) := by decide +kernel
theorem dX7_setTuft_12 : decode cX7_setTuft 12 = .ok (.invokestatic 47, 3) := by decide +kernel
theorem dX7_setTuft_15 : decode cX7_setTuft 15 = .ok (.invokevirtual 66, 3) := by decide +kernel
theorem dX7_setTuft_18 : decode cX7_setTuft 18 = .ok (.ifCond .ne 5, 3) := by decide +kernel
theorem dX7_setTuft_21 : decode cX7_setTuft 21 = .ok (.iconst 0, 1) := by decide +kernel
theorem dX7_setTuft_22 : decode cX7_setTuft 22 = .ok (.ireturn, 1) := by decide +kernel
theorem dX7_setTuft_23 : decode cX7_setTuft 23 = .ok (.aload_n 0, 1) := by decide +kernel
theorem dX7_setTuft_24 : decode cX7_setTuft 24 = .ok (.invokevirtual 70, 3) := by decide +kernel
theorem dX7_setTuft_27 : decode cX7_setTuft 27 = .ok (.aload_n 0, 1) := by decide +kernel
theorem dX7_setTuft_28 : decode cX7_setTuft 28 = .ok (.iload_n 1, 1) := by decide +kernel
theorem dX7_setTuft_29 : decode cX7_setTuft 29 = .ok (.iconst 1, 1) := by decide +kernel
theorem dX7_setTuft_30 : decode cX7_setTuft 30 = .ok (.invokevirtual 79, 3) := by decide +kernel
theorem dX7_setTuft_33 : decode cX7_setTuft 33 = .ok (.istore_n 3, 1) := by decide +kernel
theorem dX7_setTuft_34 : decode cX7_setTuft 34 = .ok (.aload_n 0, 1) := by decide +kernel
theorem dX7_setTuft_35 : decode cX7_setTuft 35 = .ok (.getfield 7, 3) := by decide +kernel
theorem dX7_setTuft_38 : decode cX7_setTuft 38 = .ok (.iload_n 1, 1) := by decide +kernel
theorem dX7_setTuft_39 : decode cX7_setTuft 39 = .ok (.iconst 1, 1) := by decide +kernel
theorem dX7_setTuft_40 : decode cX7_setTuft 40 = .ok (.invokestatic 39, 3) := by decide +kernel
theorem dX7_setTuft_43 : decode cX7_setTuft 43 = .ok (.iload_n 2, 1) := by decide +kernel
theorem dX7_setTuft_44 : decode cX7_setTuft 44 = .ok (.iastore, 1) := by decide +kernel
theorem dX7_setTuft_45 : decode cX7_setTuft 45 = .ok (.iload_n 3, 1) := by decide +kernel
theorem dX7_setTuft_46 : decode cX7_setTuft 46 = .ok (.ireturn, 1) := by decide +kernel
set_option maxRecDepth 20000 in
theorem ggX7_fences_X7_at : GoodIn wsX7_fences wsX7_at := goodIn_r _ [5] (by decide +kernel) (by decide +kernel)
set_option maxRecDepth 20000 in
theorem gX7_fences_X7_at : GoodIn wsX7_fences (va_wsS RX7 39 yX7_at wsX7_at) := goodIn_app (goodIn_of _ (by decide +kernel)) ggX7_fences_X7_at
theorem dX7_fences_0 : decode cX7_fences 0 = .ok (.aload_n 0, 1) := by decide +kernel
theorem dX7_fences_1 : decode cX7_fences 1 = .ok (.getfield 7, 3) := by decide +kernel
theorem dX7_fences_4 : decode cX7_fences 4 = .ok (.iload_n 1, 1) := by decide +kernel
theorem dX7_fences_5 : decode cX7_fences 5 = .ok (.iconst 2, 1) := by decide +kernel
theorem dX7_fences_6 : decode cX7_fences 6 = .ok (.invokestatic 39, 3) := by decide +kernel
theorem dX7_fences_9 : decode cX7_fences 9 = .ok (.iload_n 2, 1) := by decide +kernel
theorem dX7_fences_10 : decode cX7_fences 10 = .ok (.iastore, 1) := by decide +kernel
theorem dX7_fences_11 : decode cX7_fences 11 = .ok (.aload_n 0, 1) := by decide +kernel
theorem dX7_fences_12 : decode cX7_fences 12 = .ok (.getfield 7, 3) := by decide +kernel
theorem dX7_fences_15 : decode cX7_fences 15 = .ok (.iload_n 1, 1) := by decide +kernel
theorem dX7_fences_16 : decode cX7_fences 16 = .ok (.iconst 3, 1) := by decide +kernel
theorem dX7_fences_17 : decode cX7_fences 17 = .ok (.invokestatic 39, 3) := by decide +kernel
theorem dX7_fences_20 : decode cX7_fences 20 = .ok (.iload_n 2, 1) := by decide +kernel
theorem dX7_fences_21 : decode cX7_fences 21 = .ok (.iconst (-1), 1) := by decide +kernel
theorem dX7_fences_22 : decode cX7_fences 22 = .ok (.if_icmp .ne 7, 3) := by decide +kernel
theorem dX7_fences_25 : decode cX7_fences 25 = .ok (.iconst (-1), 1) := by decide +kernel
theorem dX7_fences_26 : decode cX7_fences 26 = .ok (.goto 4, 3) := by decide +kernel
theorem dX7_fences_29 : decode cX7_fences 29 = .ok (.iconst 0, 1) := by decide +kernel
theorem dX7_fences_30 : decode cX7_fences 30 = .ok (.iastore, 1) := by decide +kernel
theorem dX7_fences_31 : decode cX7_fences 31 = .ok (.return_, 1) := by decide +kernel
set_option maxRecDepth 20000 in
theorem ggX7_setFence_X7_isCell : GoodIn wsX7_setFence wsX7_isCell := goodIn_r _ [6, 7, 8, 9, 5, 10, 11, 12, 13, 14, 37, 38, 39, 40, 41, 42, 43, 44, 45, 46, 47, 48, 49] (by decide +kernel) (by decide +kernel)
set_option maxRecDepth 20000 in
theorem gX7_setFence_X7_isCell : GoodIn wsX7_setFence (wsV RX7 73 RX7 yX7_isCell wsX7_isCell) := goodIn_app (goodIn_of _ (by decide +kernel)) ggX7_setFence_X7_isCell
set_option maxRecDepth 20000 in
theorem ggX7_setFence_X7_in : GoodIn wsX7_setFence wsX7_in := goodIn_r _ [14] (by decide +kernel) (by decide +kernel)
set_option maxRecDepth 20000 in
theorem gX7_setFence_X7_in : GoodIn wsX7_setFence (va_wsS RX7 47 yX7_in wsX7_in) := goodIn_app (goodIn_of _ (by decide +kernel)) ggX7_setFence_X7_in
set_option maxRecDepth 20000 in
theorem ggX7_setFence_X7_goes : GoodIn wsX7_setFence wsX7_goes := goodIn_r _ [18, 19, 37, 38, 39, 40, 41, 42, 43, 44, 45, 46, 47, 48, 49] (by decide +kernel) (by decide +kernel)
set_option maxRecDepth 20000 in
theorem gX7_setFence_X7_goes : GoodIn wsX7_setFence (wsV RX7 66 RX7 yX7_goes wsX7_goes) := goodIn_app (goodIn_of _ (by decide +kernel)) ggX7_setFence_X7_goes
set_option maxRecDepth 20000 in
theorem ggX7_setFence_X7_save : GoodIn wsX7_setFence wsX7_save := goodIn_r _ [23, 24, 25, 11, 37, 38, 39, 40, 41, 42, 43, 44, 45, 46, 47, 48, 49] (by decide +kernel) (by decide +kernel)
set_option maxRecDepth 20000 in
theorem gX7_setFence_X7_save : GoodIn wsX7_setFence (wsV RX7 70 RX7 yX7_save wsX7_save) := goodIn_app (goodIn_of _ (by decide +kernel)) ggX7_setFence_X7_save
set_option maxRecDepth 20000 in
theorem ggX7_setFence_X7_of : GoodIn wsX7_setFence wsX7_of := goodIn_r _ [29, 11, 30, 31, 5, 32, 37, 38, 39, 40, 41, 42, 43, 44, 45, 46, 47, 48, 49] (by decide +kernel) (by decide +kernel)
set_option maxRecDepth 20000 in
theorem gX7_setFence_X7_of : GoodIn wsX7_setFence (wsV RX7 79 RX7 yX7_of wsX7_of) := goodIn_app (goodIn_of _ (by decide +kernel)) ggX7_setFence_X7_of
set_option maxRecDepth 20000 in
theorem ggX7_setFence_X7_fences : GoodIn wsX7_setFence wsX7_fences := goodIn_r _ [36, 11, 30, 31, 5, 32, 37, 38, 39, 40, 41, 42, 43, 44, 45, 46, 47, 48, 49] (by decide +kernel) (by decide +kernel)
set_option maxRecDepth 20000 in
theorem gX7_setFence_X7_fences : GoodIn wsX7_setFence (wsV RX7 86 RX7 yX7_fences wsX7_fences) := goodIn_app (goodIn_of _ (by decide +kernel)) ggX7_setFence_X7_fences
theorem dX7_setFence_0 : decode cX7_setFence 0 = .ok (.aload_n 0, 1) := by decide +kernel
theorem dX7_setFence_1 : decode cX7_setFence 1 = .ok (.aload_n 0, 1) := by decide +kernel
theorem dX7_setFence_2 : decode cX7_setFence 2 = .ok (.iload_n 1, 1) := by decide +kernel
theorem dX7_setFence_3 : decode cX7_setFence 3 = .ok (.invokevirtual 73, 3) := by decide +kernel
theorem dX7_setFence_6 : decode cX7_setFence 6 = .ok (.iload_n 2, 1) := by decide +kernel
theorem dX7_setFence_7 : decode cX7_setFence 7 = .ok (.iconst (-1), 1) := by decide +kernel
theorem dX7_setFence_8 : decode cX7_setFence 8 = .ok (.if_icmp .eq 15, 3) := by decide +kernel
theorem dX7_setFence_11 : decode cX7_setFence 11 = .ok (.iload_n 2, 1) := by decide +kernel
theorem dX7_setFence_12 : decode cX7_setFence 12 = .ok (.i2l, 1) := by decide +kernel
theorem dX7_setFence_13 : decode cX7_setFence 13 = .ok (.lconst 1, 1) := by decide +kernel
theorem dX7_setFence_14 : decode cX7_setFence 14 = .ok (.ldc2_w 84, 3) := by decide +kernel
theorem dX7_setFence_17 : decode cX7_setFence 17 = .ok (.invokestatic 47, 3) := by decide +kernel
theorem dX7_setFence_20 : decode cX7_setFence 20 = .ok (.ifCond .eq 7, 3) := by decide +kernel
theorem dX7_setFence_23 : decode cX7_setFence 23 = .ok (.iconst 1, 1) := by decide +kernel
theorem dX7_setFence_24 : decode cX7_setFence 24 = .ok (.goto 4, 3) := by decide +kernel
theorem dX7_setFence_27 : decode cX7_setFence 27 = .ok (.iconst 0, 1) := by decide +kernel
theorem dX7_setFence_28 : decode cX7_setFence 28 = .ok (.invokevirtual 66, 3) := by decide +kernel
theorem dX7_setFence_31 : decode cX7_setFence 31 = .ok (.ifCond .ne 5, 3) := by decide +kernel
theorem dX7_setFence_34 : decode cX7_setFence 34 = .ok (.iconst 0, 1) := by decide +kernel
theorem dX7_setFence_35 : decode cX7_setFence 35 = .ok (.ireturn, 1) := by decide +kernel
theorem dX7_setFence_36 : decode cX7_setFence 36 = .ok (.aload_n 0, 1) := by decide +kernel
theorem dX7_setFence_37 : decode cX7_setFence 37 = .ok (.invokevirtual 70, 3) := by decide +kernel
theorem dX7_setFence_40 : decode cX7_setFence 40 = .ok (.aload_n 0, 1) := by decide +kernel
theorem dX7_setFence_41 : decode cX7_setFence 41 = .ok (.iload_n 1, 1) := by decide +kernel
theorem dX7_setFence_42 : decode cX7_setFence 42 = .ok (.iconst 3, 1) := by decide +kernel
theorem dX7_setFence_43 : decode cX7_setFence 43 = .ok (.invokevirtual 79, 3) := by decide +kernel
theorem dX7_setFence_46 : decode cX7_setFence 46 = .ok (.istore_n 3, 1) := by decide +kernel
theorem dX7_setFence_47 : decode cX7_setFence 47 = .ok (.aload_n 0, 1) := by decide +kernel
theorem dX7_setFence_48 : decode cX7_setFence 48 = .ok (.iload_n 1, 1) := by decide +kernel
theorem dX7_setFence_49 : decode cX7_setFence 49 = .ok (.iload_n 2, 1) := by decide +kernel
theorem dX7_setFence_50 : decode cX7_setFence 50 = .ok (.invokevirtual 86, 3) := by decide +kernel
theorem dX7_setFence_53 : decode cX7_setFence 53 = .ok (.iload_n 3, 1) := by decide +kernel
theorem dX7_setFence_54 : decode cX7_setFence 54 = .ok (.ireturn, 1) := by decide +kernel
set_option maxRecDepth 20000 in
theorem ggX7_isValue_X7_in : GoodIn wsX7_isValue wsX7_in := goodIn_r _ [8] (by decide +kernel) (by decide +kernel)
set_option maxRecDepth 20000 in
theorem gX7_isValue_X7_in : GoodIn wsX7_isValue (va_wsS RX7 47 yX7_in wsX7_in) := goodIn_app (goodIn_of _ (by decide +kernel)) ggX7_isValue_X7_in
theorem dX7_isValue_0 : decode cX7_isValue 0 = .ok (.iload_n 0, 1) := by decide +kernel
theorem dX7_isValue_1 : decode cX7_isValue 1 = .ok (.ifCond .ne 15, 3) := by decide +kernel
theorem dX7_isValue_4 : decode cX7_isValue 4 = .ok (.iload_n 1, 1) := by decide +kernel
theorem dX7_isValue_5 : decode cX7_isValue 5 = .ok (.i2l, 1) := by decide +kernel
theorem dX7_isValue_6 : decode cX7_isValue 6 = .ok (.lconst 1, 1) := by decide +kernel
theorem dX7_isValue_7 : decode cX7_isValue 7 = .ok (.ldc2_w 89, 3) := by decide +kernel
theorem dX7_isValue_10 : decode cX7_isValue 10 = .ok (.invokestatic 47, 3) := by decide +kernel
theorem dX7_isValue_13 : decode cX7_isValue 13 = .ok (.goto 49, 3) := by decide +kernel
theorem dX7_isValue_16 : decode cX7_isValue 16 = .ok (.iload_n 0, 1) := by decide +kernel
theorem dX7_isValue_17 : decode cX7_isValue 17 = .ok (.iconst 3, 1) := by decide +kernel
theorem dX7_isValue_18 : decode cX7_isValue 18 = .ok (.if_icmp .ne 15, 3) := by decide +kernel
theorem dX7_isValue_21 : decode cX7_isValue 21 = .ok (.iload_n 1, 1) := by decide +kernel
theorem dX7_isValue_22 : decode cX7_isValue 22 = .ok (.i2l, 1) := by decide +kernel
theorem dX7_isValue_23 : decode cX7_isValue 23 = .ok (.lconst 1, 1) := by decide +kernel
theorem dX7_isValue_24 : decode cX7_isValue 24 = .ok (.ldc2_w 91, 3) := by decide +kernel
theorem dX7_isValue_27 : decode cX7_isValue 27 = .ok (.invokestatic 47, 3) := by decide +kernel
theorem dX7_isValue_30 : decode cX7_isValue 30 = .ok (.goto 32, 3) := by decide +kernel
theorem dX7_isValue_33 : decode cX7_isValue 33 = .ok (.iload_n 0, 1) := by decide +kernel
theorem dX7_isValue_34 : decode cX7_isValue 34 = .ok (.i2l, 1) := by decide +kernel
theorem dX7_isValue_35 : decode cX7_isValue 35 = .ok (.lconst 1, 1) := by decide +kernel
theorem dX7_isValue_36 : decode cX7_isValue 36 = .ok (.ldc2_w 93, 3) := by decide +kernel
theorem dX7_isValue_39 : decode cX7_isValue 39 = .ok (.invokestatic 47, 3) := by decide +kernel
theorem dX7_isValue_42 : decode cX7_isValue 42 = .ok (.ifCond .eq 19, 3) := by decide +kernel
theorem dX7_isValue_45 : decode cX7_isValue 45 = .ok (.iload_n 1, 1) := by decide +kernel
theorem dX7_isValue_46 : decode cX7_isValue 46 = .ok (.i2l, 1) := by decide +kernel
theorem dX7_isValue_47 : decode cX7_isValue 47 = .ok (.lconst 0, 1) := by decide +kernel
theorem dX7_isValue_48 : decode cX7_isValue 48 = .ok (.ldc2_w 82, 3) := by decide +kernel
theorem dX7_isValue_51 : decode cX7_isValue 51 = .ok (.invokestatic 47, 3) := by decide +kernel
theorem dX7_isValue_54 : decode cX7_isValue 54 = .ok (.ifCond .eq 7, 3) := by decide +kernel
theorem dX7_isValue_57 : decode cX7_isValue 57 = .ok (.iconst 1, 1) := by decide +kernel
theorem dX7_isValue_58 : decode cX7_isValue 58 = .ok (.goto 4, 3) := by decide +kernel
theorem dX7_isValue_61 : decode cX7_isValue 61 = .ok (.iconst 0, 1) := by decide +kernel
theorem dX7_isValue_62 : decode cX7_isValue 62 = .ok (.ireturn, 1) := by decide +kernel
set_option maxRecDepth 20000 in
theorem ggX7_set_X7_isValue : GoodIn wsX7_set wsX7_isValue := goodIn_r _ [5, 6, 7, 8, 9, 10, 11, 4, 12] (by decide +kernel) (by decide +kernel)
set_option maxRecDepth 20000 in
theorem gX7_set_X7_isValue : GoodIn wsX7_set (va_wsS RX7 95 yX7_isValue wsX7_isValue) := goodIn_app (goodIn_of _ (by decide +kernel)) ggX7_set_X7_isValue
set_option maxRecDepth 20000 in
theorem ggX7_set_X7_goes : GoodIn wsX7_set wsX7_goes := goodIn_r _ [16, 17, 24, 25, 26, 27, 28, 29, 30, 31, 32, 33, 34, 35, 36] (by decide +kernel) (by decide +kernel)
set_option maxRecDepth 20000 in
theorem gX7_set_X7_goes : GoodIn wsX7_set (wsV RX7 66 RX7 yX7_goes wsX7_goes) := goodIn_app (goodIn_of _ (by decide +kernel)) ggX7_set_X7_goes
set_option maxRecDepth 20000 in
theorem ggX7_set_X7_save : GoodIn wsX7_set wsX7_save := goodIn_r _ [21, 22, 23, 1, 24, 25, 26, 27, 28, 29, 30, 31, 32, 33, 34, 35, 36] (by decide +kernel) (by decide +kernel)
set_option maxRecDepth 20000 in
theorem gX7_set_X7_save : GoodIn wsX7_set (wsV RX7 70 RX7 yX7_save wsX7_save) := goodIn_app (goodIn_of _ (by decide +kernel)) ggX7_set_X7_save
theorem dX7_set_0 : decode cX7_set 0 = .ok (.aload_n 0, 1) := by decide +kernel
theorem dX7_set_1 : decode cX7_set 1 = .ok (.iload_n 1, 1) := by decide +kernel
theorem dX7_set_2 : decode cX7_set 2 = .ok (.iload_n 2, 1) := by decide +kernel
theorem dX7_set_3 : decode cX7_set 3 = .ok (.invokestatic 95, 3) := by decide +kernel
theorem dX7_set_6 : decode cX7_set 6 = .ok (.iconst 1, 1) := by decide +kernel
theorem dX7_set_7 : decode cX7_set 7 = .ok (.invokevirtual 66, 3) := by decide +kernel
theorem dX7_set_10 : decode cX7_set 10 = .ok (.ifCond .ne 5, 3) := by decide +kernel
theorem dX7_set_13 : decode cX7_set 13 = .ok (.iconst 0, 1) := by decide +kernel
theorem dX7_set_14 : decode cX7_set 14 = .ok (.ireturn, 1) := by decide +kernel
theorem dX7_set_15 : decode cX7_set 15 = .ok (.aload_n 0, 1) := by decide +kernel
theorem dX7_set_16 : decode cX7_set 16 = .ok (.invokevirtual 70, 3) := by decide +kernel
theorem dX7_set_19 : decode cX7_set 19 = .ok (.aload_n 0, 1) := by decide +kernel
theorem dX7_set_20 : decode cX7_set 20 = .ok (.getfield 7, 3) := by decide +kernel
theorem dX7_set_23 : decode cX7_set 23 = .ok (.iload_n 1, 1) := by decide +kernel
theorem dX7_set_24 : decode cX7_set 24 = .ok (.iaload, 1) := by decide +kernel
theorem dX7_set_25 : decode cX7_set 25 = .ok (.istore_n 3, 1) := by decide +kernel
theorem dX7_set_26 : decode cX7_set 26 = .ok (.aload_n 0, 1) := by decide +kernel
theorem dX7_set_27 : decode cX7_set 27 = .ok (.getfield 7, 3) := by decide +kernel
theorem dX7_set_30 : decode cX7_set 30 = .ok (.iload_n 1, 1) := by decide +kernel
theorem dX7_set_31 : decode cX7_set 31 = .ok (.iload_n 2, 1) := by decide +kernel
theorem dX7_set_32 : decode cX7_set 32 = .ok (.iastore, 1) := by decide +kernel
theorem dX7_set_33 : decode cX7_set 33 = .ok (.iload_n 3, 1) := by decide +kernel
theorem dX7_set_34 : decode cX7_set 34 = .ok (.ireturn, 1) := by decide +kernel
set_option maxRecDepth 20000 in
theorem ggX7_setWind_X7_in : GoodIn wsX7_setWind wsX7_in := goodIn_r _ [8] (by decide +kernel) (by decide +kernel)
set_option maxRecDepth 20000 in
theorem gX7_setWind_X7_in : GoodIn wsX7_setWind (va_wsS RX7 47 yX7_in wsX7_in) := goodIn_app (goodIn_of _ (by decide +kernel)) ggX7_setWind_X7_in
set_option maxRecDepth 20000 in
theorem ggX7_setWind_X7_goes : GoodIn wsX7_setWind wsX7_goes := goodIn_r _ [12, 13, 20, 21, 22, 23, 24, 25, 26, 27, 28, 29, 30, 31, 32] (by decide +kernel) (by decide +kernel)
set_option maxRecDepth 20000 in
theorem gX7_setWind_X7_goes : GoodIn wsX7_setWind (wsV RX7 66 RX7 yX7_goes wsX7_goes) := goodIn_app (goodIn_of _ (by decide +kernel)) ggX7_setWind_X7_goes
set_option maxRecDepth 20000 in
theorem ggX7_setWind_X7_save : GoodIn wsX7_setWind wsX7_save := goodIn_r _ [17, 18, 19, 4, 20, 21, 22, 23, 24, 25, 26, 27, 28, 29, 30, 31, 32] (by decide +kernel) (by decide +kernel)
set_option maxRecDepth 20000 in
theorem gX7_setWind_X7_save : GoodIn wsX7_setWind (wsV RX7 70 RX7 yX7_save wsX7_save) := goodIn_app (goodIn_of _ (by decide +kernel)) ggX7_setWind_X7_save
theorem dX7_setWind_0 : decode cX7_setWind 0 = .ok (.aload_n 0, 1) := by decide +kernel
theorem dX7_setWind_1 : decode cX7_setWind 1 = .ok (.iload_n 1, 1) := by decide +kernel
theorem dX7_setWind_2 : decode cX7_setWind 2 = .ok (.i2l, 1) := by decide +kernel
theorem dX7_setWind_3 : decode cX7_setWind 3 = .ok (.lconst 0, 1) := by decide +kernel
theorem dX7_setWind_4 : decode cX7_setWind 4 = .ok (.ldc2_w 58, 3) := by decide +kernel
theorem dX7_setWind_7 : decode cX7_setWind 7 = .ok (.invokestatic 47, 3) := by decide +kernel
theorem dX7_setWind_10 : decode cX7_setWind 10 = .ok (.ifCond .eq 21, 3) := by decide +kernel
theorem dX7_setWind_13 : decode cX7_setWind 13 = .ok (.iload_n 2, 1) := by decide +kernel
theorem dX7_setWind_14 : decode cX7_setWind 14 = .ok (.i2l, 1) := by decide +kernel
theorem dX7_setWind_15 : decode cX7_setWind 15 = .ok (.ldc2_w 99, 3) := by decide +kernel
theorem dX7_setWind_18 : decode cX7_setWind 18 = .ok (.ldc2_w 101, 3) := by decide +kernel
theorem dX7_setWind_21 : decode cX7_setWind 21 = .ok (.invokestatic 47, 3) := by decide +kernel
theorem dX7_setWind_24 : decode cX7_setWind 24 = .ok (.ifCond .eq 7, 3) := by decide +kernel
theorem dX7_setWind_27 : decode cX7_setWind 27 = .ok (.iconst 1, 1) := by decide +kernel
theorem dX7_setWind_28 : decode cX7_setWind 28 = .ok (.goto 4, 3) := by decide +kernel
theorem dX7_setWind_31 : decode cX7_setWind 31 = .ok (.iconst 0, 1) := by decide +kernel
theorem dX7_setWind_32 : decode cX7_setWind 32 = .ok (.iconst 1, 1) := by decide +kernel
theorem dX7_setWind_33 : decode cX7_setWind 33 = .ok (.invokevirtual 66, 3) := by decide +kernel
theorem dX7_setWind_36 : decode cX7_setWind 36 = .ok (.ifCond .ne 5, 3) := by decide +kernel
theorem dX7_setWind_39 : decode cX7_setWind 39 = .ok (.iconst 0, 1) := by decide +kernel
theorem dX7_setWind_40 : decode cX7_setWind 40 = .ok (.ireturn, 1) := by decide +kernel
theorem dX7_setWind_41 : decode cX7_setWind 41 = .ok (.aload_n 0, 1) := by decide +kernel
theorem dX7_setWind_42 : decode cX7_setWind 42 = .ok (.invokevirtual 70, 3) := by decide +kernel
theorem dX7_setWind_45 : decode cX7_setWind 45 = .ok (.aload_n 0, 1) := by decide +kernel
theorem dX7_setWind_46 : decode cX7_setWind 46 = .ok (.getfield 7, 3) := by decide +kernel
theorem dX7_setWind_49 : decode cX7_setWind 49 = .ok (.bipush 6, 2) := by decide +kernel
theorem dX7_setWind_51 : decode cX7_setWind 51 = .ok (.iaload, 1) := by decide +kernel
theorem dX7_setWind_52 : decode cX7_setWind 52 = .ok (.istore_n 3, 1) := by decide +kernel
theorem dX7_setWind_53 : decode cX7_setWind 53 = .ok (.aload_n 0, 1) := by decide +kernel
theorem dX7_setWind_54 : decode cX7_setWind 54 = .ok (.getfield 7, 3) := by decide +kernel
theorem dX7_setWind_57 : decode cX7_setWind 57 = .ok (.bipush 6, 2) := by decide +kernel
theorem dX7_setWind_59 : decode cX7_setWind 59 = .ok (.iload_n 1, 1) := by decide +kernel
theorem dX7_setWind_60 : decode cX7_setWind 60 = .ok (.iastore, 1) := by decide +kernel
theorem dX7_setWind_61 : decode cX7_setWind 61 = .ok (.aload_n 0, 1) := by decide +kernel
theorem dX7_setWind_62 : decode cX7_setWind 62 = .ok (.getfield 7, 3) := by decide +kernel
theorem dX7_setWind_65 : decode cX7_setWind 65 = .ok (.bipush 7, 2) := by decide +kernel
theorem dX7_setWind_67 : decode cX7_setWind 67 = .ok (.iload_n 2, 1) := by decide +kernel
theorem dX7_setWind_68 : decode cX7_setWind 68 = .ok (.iconst (-1), 1) := by decide +kernel
theorem dX7_setWind_69 : decode cX7_setWind 69 = .ok (.if_icmp .ne 13, 3) := by decide +kernel
theorem dX7_setWind_72 : decode cX7_setWind 72 = .ok (.aload_n 0, 1) := by decide +kernel
theorem dX7_setWind_73 : decode cX7_setWind 73 = .ok (.getfield 7, 3) := by decide +kernel
theorem dX7_setWind_76 : decode cX7_setWind 76 = .ok (.bipush 7, 2) := by decide +kernel
theorem dX7_setWind_78 : decode cX7_setWind 78 = .ok (.iaload, 1) := by decide +kernel
theorem dX7_setWind_79 : decode cX7_setWind 79 = .ok (.goto 4, 3) := by decide +kernel
theorem dX7_setWind_82 : decode cX7_setWind 82 = .ok (.iload_n 2, 1) := by decide +kernel
theorem dX7_setWind_83 : decode cX7_setWind 83 = .ok (.iastore, 1) := by decide +kernel
theorem dX7_setWind_84 : decode cX7_setWind 84 = .ok (.iload_n 3, 1) := by decide +kernel
theorem dX7_setWind_85 : decode cX7_setWind 85 = .ok (.ireturn, 1) := by decide +kernel
theorem dX7_away_0 : decode cX7_away 0 = .ok (.aload_n 0, 1) := by decide +kernel
theorem dX7_away_1 : decode cX7_away 1 = .ok (.getfield 7, 3) := by decide +kernel
theorem dX7_away_4 : decode cX7_away 4 = .ok (.iconst 4, 1) := by decide +kernel
theorem dX7_away_5 : decode cX7_away 5 = .ok (.iaload, 1) := by decide +kernel
theorem dX7_away_6 : decode cX7_away 6 = .ok (.istore 4, 2) := by decide +kernel
theorem dX7_away_8 : decode cX7_away 8 = .ok (.aload_n 0, 1) := by decide +kernel
theorem dX7_away_9 : decode cX7_away 9 = .ok (.getfield 7, 3) := by decide +kernel
theorem dX7_away_12 : decode cX7_away 12 = .ok (.iconst 5, 1) := by decide +kernel
theorem dX7_away_13 : decode cX7_away 13 = .ok (.iaload, 1) := by decide +kernel
theorem dX7_away_14 : decode cX7_away 14 = .ok (.istore 5, 2) := by decide +kernel
theorem dX7_away_16 : decode cX7_away 16 = .ok (.iload_n 1, 1) := by decide +kernel
theorem dX7_away_17 : decode cX7_away 17 = .ok (.iload 5, 2) := by decide +kernel
theorem dX7_away_19 : decode cX7_away 19 = .ok (.idiv, 1) := by decide +kernel
theorem dX7_away_20 : decode cX7_away 20 = .ok (.iload_n 2, 1) := by decide +kernel
theorem dX7_away_21 : decode cX7_away 21 = .ok (.iadd, 1) := by decide +kernel
theorem dX7_away_22 : decode cX7_away 22 = .ok (.iload 4, 2) := by decide +kernel
theorem dX7_away_24 : decode cX7_away 24 = .ok (.irem, 1) := by decide +kernel
theorem dX7_away_25 : decode cX7_away 25 = .ok (.iload 4, 2) := by decide +kernel
theorem dX7_away_27 : decode cX7_away 27 = .ok (.iadd, 1) := by decide +kernel
theorem dX7_away_28 : decode cX7_away 28 = .ok (.iload 4, 2) := by decide +kernel
theorem dX7_away_30 : decode cX7_away 30 = .ok (.irem, 1) := by decide +kernel
theorem dX7_away_31 : decode cX7_away 31 = .ok (.istore 6, 2) := by decide +kernel
theorem dX7_away_33 : decode cX7_away 33 = .ok (.iload_n 1, 1) := by decide +kernel
theorem dX7_away_34 : decode cX7_away 34 = .ok (.iload 5, 2) := by decide +kernel
theorem dX7_away_36 : decode cX7_away 36 = .ok (.irem, 1) := by decide +kernel
theorem dX7_away_37 : decode cX7_away 37 = .ok (.iload_n 3, 1) := by decide +kernel
theorem dX7_away_38 : decode cX7_away 38 = .ok (.iadd, 1) := by decide +kernel
theorem dX7_away_39 : decode cX7_away 39 = .ok (.iload 5, 2) := by decide +kernel
theorem dX7_away_41 : decode cX7_away 41 = .ok (.irem, 1) := by decide +kernel
theorem dX7_away_42 : decode cX7_away 42 = .ok (.iload 5, 2) := by decide +kernel
theorem dX7_away_44 : decode cX7_away 44 = .ok (.iadd, 1) := by decide +kernel
theorem dX7_away_45 : decode cX7_away 45 = .ok (.iload 5, 2) := by decide +kernel
theorem dX7_away_47 : decode cX7_away 47 = .ok (.irem, 1) := by decide +kernel
theorem dX7_away_48 : decode cX7_away 48 = .ok (.istore 7, 2) := by decide +kernel
theorem dX7_away_50 : decode cX7_away 50 = .ok (.iload 6, 2) := by decide +kernel
theorem dX7_away_52 : decode cX7_away 52 = .ok (.iload 5, 2) := by decide +kernel
theorem dX7_away_54 : decode cX7_away 54 = .ok (.imul, 1) := by decide +kernel
theorem dX7_away_55 : decode cX7_away 55 = .ok (.iload 7, 2) := by decide +kernel
theorem dX7_away_57 : decode cX7_away 57 = .ok (.iadd, 1) := by decide +kernel
theorem dX7_away_58 : decode cX7_away 58 = .ok (.ireturn, 1) := by decide +kernel
set_option maxRecDepth 20000 in
theorem ggX7_neighbor_X7_away : GoodIn wsX7_neighbor wsX7_away := goodIn_r _ [5, 6, 7, 8, 9, 10, 11, 12, 13, 14, 15, 16, 17, 18, 19] (by decide +kernel) (by decide +kernel)
set_option maxRecDepth 20000 in
theorem gX7_neighbor_X7_away : GoodIn wsX7_neighbor (wsV RX7 103 RX7 yX7_away wsX7_away) := goodIn_app (goodIn_of _ (by decide +kernel)) ggX7_neighbor_X7_away
theorem dX7_neighbor_0 : decode cX7_neighbor 0 = .ok (.aload_n 0, 1) := by decide +kernel
theorem dX7_neighbor_1 : decode cX7_neighbor 1 = .ok (.iload_n 1, 1) := by decide +kernel
theorem dX7_neighbor_2 : decode cX7_neighbor 2 = .ok (.iload_n 2, 1) := by decide +kernel
theorem dX7_neighbor_3 : decode cX7_neighbor 3 = .ok (.ifCond .ne 7, 3) := by decide +kernel
theorem dX7_neighbor_6 : decode cX7_neighbor 6 = .ok (.iconst (-1), 1) := by decide +kernel
theorem dX7_neighbor_7 : decode cX7_neighbor 7 = .ok (.goto 13, 3) := by decide +kernel
theorem dX7_neighbor_10 : decode cX7_neighbor 10 = .ok (.iload_n 2, 1) := by decide +kernel
theorem dX7_neighbor_11 : decode cX7_neighbor 11 = .ok (.iconst 2, 1) := by decide +kernel
theorem dX7_neighbor_12 : decode cX7_neighbor 12 = .ok (.if_icmp .ne 7, 3) := by decide +kernel
theorem dX7_neighbor_15 : decode cX7_neighbor 15 = .ok (.iconst 1, 1) := by decide +kernel
theorem dX7_neighbor_16 : decode cX7_neighbor 16 = .ok (.goto 4, 3) := by decide +kernel
theorem dX7_neighbor_19 : decode cX7_neighbor 19 = .ok (.iconst 0, 1) := by decide +kernel
theorem dX7_neighbor_20 : decode cX7_neighbor 20 = .ok (.iload_n 2, 1) := by decide +kernel
theorem dX7_neighbor_21 : decode cX7_neighbor 21 = .ok (.iconst 1, 1) := by decide +kernel
theorem dX7_neighbor_22 : decode cX7_neighbor 22 = .ok (.if_icmp .ne 7, 3) := by decide +kernel
theorem dX7_neighbor_25 : decode cX7_neighbor 25 = .ok (.iconst 1, 1) := by decide +kernel
theorem dX7_neighbor_26 : decode cX7_neighbor 26 = .ok (.goto 13, 3) := by decide +kernel
theorem dX7_neighbor_29 : decode cX7_neighbor 29 = .ok (.iload_n 2, 1) := by decide +kernel
theorem dX7_neighbor_30 : decode cX7_neighbor 30 = .ok (.iconst 3, 1) := by decide +kernel
theorem dX7_neighbor_31 : decode cX7_neighbor 31 = .ok (.if_icmp .ne 7, 3) := by decide +kernel
theorem dX7_neighbor_34 : decode cX7_neighbor 34 = .ok (.iconst (-1), 1) := by decide +kernel
theorem dX7_neighbor_35 : decode cX7_neighbor 35 = .ok (.goto 4, 3) := by decide +kernel
theorem dX7_neighbor_38 : decode cX7_neighbor 38 = .ok (.iconst 0, 1) := by decide +kernel
theorem dX7_neighbor_39 : decode cX7_neighbor 39 = .ok (.invokevirtual 103, 3) := by decide +kernel
theorem dX7_neighbor_42 : decode cX7_neighbor 42 = .ok (.ireturn, 1) := by decide +kernel
set_option maxRecDepth 20000 in
theorem ggX7_downwind_X7_away : GoodIn wsX7_downwind wsX7_away := goodIn_r _ [6, 1, 7, 8, 9, 10, 11, 12, 13, 14, 15, 16, 17, 18, 19] (by decide +kernel) (by decide +kernel)
set_option maxRecDepth 20000 in
theorem gX7_downwind_X7_away : GoodIn wsX7_downwind (wsV RX7 103 RX7 yX7_away wsX7_away) := goodIn_app (goodIn_of _ (by decide +kernel)) ggX7_downwind_X7_away
theorem dX7_downwind_0 : decode cX7_downwind 0 = .ok (.aload_n 0, 1) := by decide +kernel
theorem dX7_downwind_1 : decode cX7_downwind 1 = .ok (.getfield 7, 3) := by decide +kernel
theorem dX7_downwind_4 : decode cX7_downwind 4 = .ok (.bipush 6, 2) := by decide +kernel
theorem dX7_downwind_6 : decode cX7_downwind 6 = .ok (.iaload, 1) := by decide +kernel
theorem dX7_downwind_7 : decode cX7_downwind 7 = .ok (.istore_n 3, 1) := by decide +kernel
theorem dX7_downwind_8 : decode cX7_downwind 8 = .ok (.aload_n 0, 1) := by decide +kernel
theorem dX7_downwind_9 : decode cX7_downwind 9 = .ok (.iload_n 1, 1) := by decide +kernel
theorem dX7_downwind_10 : decode cX7_downwind 10 = .ok (.iload_n 3, 1) := by decide +kernel
theorem dX7_downwind_11 : decode cX7_downwind 11 = .ok (.iconst 1, 1) := by decide +kernel
theorem dX7_downwind_12 : decode cX7_downwind 12 = .ok (.if_icmp .ne 7, 3) := by decide +kernel
theorem dX7_downwind_15 : decode cX7_downwind 15 = .ok (.iload_n 2, 1) := by decide +kernel
theorem dX7_downwind_16 : decode cX7_downwind 16 = .ok (.goto 14, 3) := by decide +kernel
theorem dX7_downwind_19 : decode cX7_downwind 19 = .ok (.iload_n 3, 1) := by decide +kernel
theorem dX7_downwind_20 : decode cX7_downwind 20 = .ok (.iconst 3, 1) := by decide +kernel
theorem dX7_downwind_21 : decode cX7_downwind 21 = .ok (.if_icmp .ne 8, 3) := by decide +kernel
theorem dX7_downwind_24 : decode cX7_downwind 24 = .ok (.iload_n 2, 1) := by decide +kernel
theorem dX7_downwind_25 : decode cX7_downwind 25 = .ok (.ineg, 1) := by decide +kernel
theorem dX7_downwind_26 : decode cX7_downwind 26 = .ok (.goto 4, 3) := by decide +kernel
theorem dX7_downwind_29 : decode cX7_downwind 29 = .ok (.iconst 0, 1) := by decide +kernel
theorem dX7_downwind_30 : decode cX7_downwind 30 = .ok (.iload_n 3, 1) := by decide +kernel
theorem dX7_downwind_31 : decode cX7_downwind 31 = .ok (.ifCond .ne 7, 3) := by decide +kernel
theorem dX7_downwind_34 : decode cX7_downwind 34 = .ok (.iload_n 2, 1) := by decide +kernel
theorem dX7_downwind_35 : decode cX7_downwind 35 = .ok (.goto 14, 3) := by decide +kernel
theorem dX7_downwind_38 : decode cX7_downwind 38 = .ok (.iload_n 3, 1) := by decide +kernel
theorem dX7_downwind_39 : decode cX7_downwind 39 = .ok (.iconst 2, 1) := by decide +kernel
theorem dX7_downwind_40 : decode cX7_downwind 40 = .ok (.if_icmp .ne 8, 3) := by decide +kernel
theorem dX7_downwind_43 : decode cX7_downwind 43 = .ok (.iload_n 2, 1) := by decide +kernel
theorem dX7_downwind_44 : decode cX7_downwind 44 = .ok (.ineg, 1) := by decide +kernel
theorem dX7_downwind_45 : decode cX7_downwind 45 = .ok (.goto 4, 3) := by decide +kernel
theorem dX7_downwind_48 : decode cX7_downwind 48 = .ok (.iconst 0, 1) := by decide +kernel
theorem dX7_downwind_49 : decode cX7_downwind 49 = .ok (.invokevirtual 103, 3) := by decide +kernel
theorem dX7_downwind_52 : decode cX7_downwind 52 = .ok (.ireturn, 1) := by decide +kernel
set_option maxRecDepth 20000 in
theorem ggX7_isInShadow_X7_downwind : GoodIn wsX7_isInShadow wsX7_downwind := goodIn_r _ [6, 1, 7, 8, 9, 5, 10, 18, 19, 20, 21, 22, 23, 24, 25, 26, 27, 28, 29, 30] (by decide +kernel) (by decide +kernel)
set_option maxRecDepth 20000 in
theorem gX7_isInShadow_X7_downwind : GoodIn wsX7_isInShadow (wsV RX7 107 RX7 yX7_downwind wsX7_downwind) := goodIn_app (goodIn_of _ (by decide +kernel)) ggX7_isInShadow_X7_downwind
set_option maxRecDepth 20000 in
theorem ggX7_isInShadow_X7_of : GoodIn wsX7_isInShadow wsX7_of := goodIn_r _ [14, 1, 15, 16, 5, 17, 18, 19, 20, 21, 22, 23, 24, 25, 26, 27, 28, 29, 30] (by decide +kernel) (by decide +kernel)
set_option maxRecDepth 20000 in
theorem gX7_isInShadow_X7_of : GoodIn wsX7_isInShadow (wsV RX7 79 RX7 yX7_of wsX7_of) := goodIn_app (goodIn_of _ (by decide +kernel)) ggX7_isInShadow_X7_of
theorem dX7_isInShadow_0 : decode cX7_isInShadow 0 = .ok (.aload_n 0, 1) := by decide +kernel
theorem dX7_isInShadow_1 : decode cX7_isInShadow 1 = .ok (.getfield 7, 3) := by decide +kernel
theorem dX7_isInShadow_4 : decode cX7_isInShadow 4 = .ok (.bipush 6, 2) := by decide +kernel
theorem dX7_isInShadow_6 : decode cX7_isInShadow 6 = .ok (.iaload, 1) := by decide +kernel
theorem dX7_isInShadow_7 : decode cX7_isInShadow 7 = .ok (.iconst 2, 1) := by decide +kernel
theorem dX7_isInShadow_8 : decode cX7_isInShadow 8 = .ok (.irem, 1) := by decide +kernel
theorem dX7_isInShadow_9 : decode cX7_isInShadow 9 = .ok (.ifCond .ne 12, 3) := by decide +kernel
theorem dX7_isInShadow_12 : decode cX7_isInShadow 12 = .ok (.aload_n 0, 1) := by decide +kernel
theorem dX7_isInShadow_13 : decode cX7_isInShadow 13 = .ok (.getfield 7, 3) := by decide +kernel
theorem dX7_isInShadow_16 : decode cX7_isInShadow 16 = .ok (.iconst 5, 1) := by decide +kernel
theorem dX7_isInShadow_17 : decode cX7_isInShadow 17 = .ok (.iaload, 1) := by decide +kernel
theorem dX7_isInShadow_18 : decode cX7_isInShadow 18 = .ok (.goto 9, 3) := by decide +kernel
theorem dX7_isInShadow_21 : decode cX7_isInShadow 21 = .ok (.aload_n 0, 1) := by decide +kernel
theorem dX7_isInShadow_22 : decode cX7_isInShadow 22 = .ok (.getfield 7, 3) := by decide +kernel
theorem dX7_isInShadow_25 : decode cX7_isInShadow 25 = .ok (.iconst 4, 1) := by decide +kernel
theorem dX7_isInShadow_26 : decode cX7_isInShadow 26 = .ok (.iaload, 1) := by decide +kernel
theorem dX7_isInShadow_27 : decode cX7_isInShadow 27 = .ok (.istore_n 2, 1) := by decide +kernel
theorem dX7_isInShadow_28 : decode cX7_isInShadow 28 = .ok (.iconst 0, 1) := by decide +kernel
theorem dX7_isInShadow_29 : decode cX7_isInShadow 29 = .ok (.istore_n 3, 1) := by decide +kernel
theorem dX7_isInShadow_30 : decode cX7_isInShadow 30 = .ok (.iconst 1, 1) := by decide +kernel
theorem dX7_isInShadow_31 : decode cX7_isInShadow 31 = .ok (.istore 4, 2) := by decide +kernel
theorem dX7_isInShadow_33 : decode cX7_isInShadow 33 = .ok (.iload 4, 2) := by decide +kernel
theorem dX7_isInShadow_35 : decode cX7_isInShadow 35 = .ok (.iload_n 2, 1) := by decide +kernel
theorem dX7_isInShadow_36 : decode cX7_isInShadow 36 = .ok (.if_icmp .ge 48, 3) := by decide +kernel
theorem dX7_isInShadow_39 : decode cX7_isInShadow 39 = .ok (.iload_n 3, 1) := by decide +kernel
theorem dX7_isInShadow_40 : decode cX7_isInShadow 40 = .ok (.ifCond .ne 32, 3) := by decide +kernel
theorem dX7_isInShadow_43 : decode cX7_isInShadow 43 = .ok (.aload_n 0, 1) := by decide +kernel
theorem dX7_isInShadow_44 : decode cX7_isInShadow 44 = .ok (.aload_n 0, 1) := by decide +kernel
theorem dX7_isInShadow_45 : decode cX7_isInShadow 45 = .ok (.iload_n 1, 1) := by decide +kernel
theorem dX7_isInShadow_46 : decode cX7_isInShadow 46 = .ok (.iload 4, 2) := by decide +kernel
theorem dX7_isInShadow_48 : decode cX7_isInShadow 48 = .ok (.ineg, 1) := by decide +kernel
theorem dX7_isInShadow_49 : decode cX7_isInShadow 49 = .ok (.invokevirtual 107, 3) := by decide +kernel
theorem dX7_isInShadow_52 : decode cX7_isInShadow 52 = .ok (.iconst 0, 1) := by decide +kernel
theorem dX7_isInShadow_53 : decode cX7_isInShadow 53 = .ok (.invokevirtual 79, 3) := by decide +kernel
theorem dX7_isInShadow_56 : decode cX7_isInShadow 56 = .ok (.aload_n 0, 1) := by decide +kernel
theorem dX7_isInShadow_57 : decode cX7_isInShadow 57 = .ok (.iload_n 1, 1) := by decide +kernel
theorem dX7_isInShadow_58 : decode cX7_isInShadow 58 = .ok (.iconst 0, 1) := by decide +kernel
theorem dX7_isInShadow_59 : decode cX7_isInShadow 59 = .ok (.invokevirtual 79, 3) := by decide +kernel
theorem dX7_isInShadow_62 : decode cX7_isInShadow 62 = .ok (.isub, 1) := by decide +kernel
theorem dX7_isInShadow_63 : decode cX7_isInShadow 63 = .ok (.iconst 5, 1) := by decide +kernel
theorem dX7_isInShadow_64 : decode cX7_isInShadow 64 = .ok (.imul, 1) := by decide +kernel
theorem dX7_isInShadow_65 : decode cX7_isInShadow 65 = .ok (.iconst 4, 1) := by decide +kernel
theorem dX7_isInShadow_66 : decode cX7_isInShadow 66 = .ok (.iload 4, 2) := by decide +kernel
theorem dX7_isInShadow_68 : decode cX7_isInShadow 68 = .ok (.imul, 1) := by decide +kernel
theorem dX7_isInShadow_69 : decode cX7_isInShadow 69 = .ok (.if_icmp .le 7, 3) := by decide +kernel
theorem dX7_isInShadow_72 : decode cX7_isInShadow 72 = .ok (.iconst 1, 1) := by decide +kernel
theorem dX7_isInShadow_73 : decode cX7_isInShadow 73 = .ok (.goto 4, 3) := by decide +kernel
theorem dX7_isInShadow_76 : decode cX7_isInShadow 76 = .ok (.iconst 0, 1) := by decide +kernel
theorem dX7_isInShadow_77 : decode cX7_isInShadow 77 = .ok (.istore_n 3, 1) := by decide +kernel
theorem dX7_isInShadow_78 : decode cX7_isInShadow 78 = .ok (.iinc 4 1, 3) := by decide +kernel
theorem dX7_isInShadow_81 : decode cX7_isInShadow 81 = .ok (.goto (-48), 3) := by decide +kernel
theorem dX7_isInShadow_84 : decode cX7_isInShadow 84 = .ok (.iload_n 3, 1) := by decide +kernel
theorem dX7_isInShadow_85 : decode cX7_isInShadow 85 = .ok (.ireturn, 1) := by decide +kernel
theorem dX7_draws_0 : decode cX7_draws 0 = .ok (.ldc2_w 110, 3) := by decide +kernel
theorem dX7_draws_3 : decode cX7_draws 3 = .ok (.aload_n 0, 1) := by decide +kernel
theorem dX7_draws_4 : decode cX7_draws 4 = .ok (.getfield 7, 3) := by decide +kernel
theorem dX7_draws_7 : decode cX7_draws 7 = .ok (.bipush 7, 2) := by decide +kernel
theorem dX7_draws_9 : decode cX7_draws 9 = .ok (.iaload, 1) := by decide +kernel
theorem dX7_draws_10 : decode cX7_draws 10 = .ok (.i2l, 1) := by decide +kernel
theorem dX7_draws_11 : decode cX7_draws 11 = .ok (.lmul, 1) := by decide +kernel
theorem dX7_draws_12 : decode cX7_draws 12 = .ok (.ldc2_w 112, 3) := by decide +kernel
theorem dX7_draws_15 : decode cX7_draws 15 = .ok (.ladd, 1) := by decide +kernel
theorem dX7_draws_16 : decode cX7_draws 16 = .ok (.ldc2_w 114, 3) := by decide +kernel
theorem dX7_draws_19 : decode cX7_draws 19 = .ok (.lrem, 1) := by decide +kernel
theorem dX7_draws_20 : decode cX7_draws 20 = .ok (.lstore_n 2, 1) := by decide +kernel
theorem dX7_draws_21 : decode cX7_draws 21 = .ok (.aload_n 0, 1) := by decide +kernel
theorem dX7_draws_22 : decode cX7_draws 22 = .ok (.getfield 7, 3) := by decide +kernel
theorem dX7_draws_25 : decode cX7_draws 25 = .ok (.bipush 7, 2) := by decide +kernel
theorem dX7_draws_27 : decode cX7_draws 27 = .ok (.lload_n 2, 1) := by decide +kernel
theorem dX7_draws_28 : decode cX7_draws 28 = .ok (.l2i, 1) := by decide +kernel
theorem dX7_draws_29 : decode cX7_draws 29 = .ok (.iastore, 1) := by decide +kernel
theorem dX7_draws_30 : decode cX7_draws 30 = .ok (.lload_n 2, 1) := by decide +kernel
theorem dX7_draws_31 : decode cX7_draws 31 = .ok (.ldc2_w 116, 3) := by decide +kernel
theorem dX7_draws_34 : decode cX7_draws 34 = .ok (.ldiv, 1) := by decide +kernel
theorem dX7_draws_35 : decode cX7_draws 35 = .ok (.iload_n 1, 1) := by decide +kernel
theorem dX7_draws_36 : decode cX7_draws 36 = .ok (.i2l, 1) := by decide +kernel
theorem dX7_draws_37 : decode cX7_draws 37 = .ok (.lrem, 1) := by decide +kernel
theorem dX7_draws_38 : decode cX7_draws 38 = .ok (.l2i, 1) := by decide +kernel
theorem dX7_draws_39 : decode cX7_draws 39 = .ok (.ireturn, 1) := by decide +kernel
set_option maxRecDepth 20000 in
theorem ggX7_slides_X7_at : GoodIn wsX7_slides wsX7_at := goodIn_r _ [5] (by decide +kernel) (by decide +kernel)
set_option maxRecDepth 20000 in
theorem gX7_slides_X7_at : GoodIn wsX7_slides (va_wsS RX7 39 yX7_at wsX7_at) := goodIn_app (goodIn_of _ (by decide +kernel)) ggX7_slides_X7_at
theorem dX7_slides_0 : decode cX7_slides 0 = .ok (.aload_n 0, 1) := by decide +kernel
theorem dX7_slides_1 : decode cX7_slides 1 = .ok (.getfield 7, 3) := by decide +kernel
theorem dX7_slides_4 : decode cX7_slides 4 = .ok (.iload_n 1, 1) := by decide +kernel
theorem dX7_slides_5 : decode cX7_slides 5 = .ok (.iconst 0, 1) := by decide +kernel
theorem dX7_slides_6 : decode cX7_slides 6 = .ok (.invokestatic 39, 3) := by decide +kernel
theorem dX7_slides_9 : decode cX7_slides 9 = .ok (.dup2, 1) := by decide +kernel
theorem dX7_slides_10 : decode cX7_slides 10 = .ok (.iaload, 1) := by decide +kernel
theorem dX7_slides_11 : decode cX7_slides 11 = .ok (.iconst 1, 1) := by decide +kernel
theorem dX7_slides_12 : decode cX7_slides 12 = .ok (.isub, 1) := by decide +kernel
theorem dX7_slides_13 : decode cX7_slides 13 = .ok (.iastore, 1) := by decide +kernel
theorem dX7_slides_14 : decode cX7_slides 14 = .ok (.aload_n 0, 1) := by decide +kernel
theorem dX7_slides_15 : decode cX7_slides 15 = .ok (.getfield 7, 3) := by decide +kernel
theorem dX7_slides_18 : decode cX7_slides 18 = .ok (.iload_n 2, 1) := by decide +kernel
theorem dX7_slides_19 : decode cX7_slides 19 = .ok (.iconst 0, 1) := by decide +kernel
theorem dX7_slides_20 : decode cX7_slides 20 = .ok (.invokestatic 39, 3) := by decide +kernel
theorem dX7_slides_23 : decode cX7_slides 23 = .ok (.dup2, 1) := by decide +kernel
theorem dX7_slides_24 : decode cX7_slides 24 = .ok (.iaload, 1) := by decide +kernel
theorem dX7_slides_25 : decode cX7_slides 25 = .ok (.iconst 1, 1) := by decide +kernel
theorem dX7_slides_26 : decode cX7_slides 26 = .ok (.iadd, 1) := by decide +kernel
theorem dX7_slides_27 : decode cX7_slides 27 = .ok (.iastore, 1) := by decide +kernel
theorem dX7_slides_28 : decode cX7_slides 28 = .ok (.aload_n 0, 1) := by decide +kernel
theorem dX7_slides_29 : decode cX7_slides 29 = .ok (.getfield 7, 3) := by decide +kernel
theorem dX7_slides_32 : decode cX7_slides 32 = .ok (.bipush 18, 2) := by decide +kernel
theorem dX7_slides_34 : decode cX7_slides 34 = .ok (.dup2, 1) := by decide +kernel
theorem dX7_slides_35 : decode cX7_slides 35 = .ok (.iaload, 1) := by decide +kernel
theorem dX7_slides_36 : decode cX7_slides 36 = .ok (.iconst 1, 1) := by decide +kernel
theorem dX7_slides_37 : decode cX7_slides 37 = .ok (.iadd, 1) := by decide +kernel
theorem dX7_slides_38 : decode cX7_slides 38 = .ok (.iastore, 1) := by decide +kernel
theorem dX7_slides_39 : decode cX7_slides 39 = .ok (.return_, 1) := by decide +kernel
set_option maxRecDepth 20000 in
theorem ggX7_steepest_X7_neighbor : GoodIn wsX7_steepest wsX7_neighbor := goodIn_r _ [6, 7, 8, 9, 5, 10, 1, 18, 19, 20, 21, 22, 23, 24, 25, 26, 27, 28, 29, 30] (by decide +kernel) (by decide +kernel)
set_option maxRecDepth 20000 in
theorem gX7_steepest_X7_neighbor : GoodIn wsX7_steepest (wsV RX7 118 RX7 yX7_neighbor wsX7_neighbor) := goodIn_app (goodIn_of _ (by decide +kernel)) ggX7_steepest_X7_neighbor
set_option maxRecDepth 20000 in
theorem ggX7_steepest_X7_of : GoodIn wsX7_steepest wsX7_of := goodIn_r _ [14, 1, 15, 16, 5, 17, 18, 19, 20, 21, 22, 23, 24, 25, 26, 27, 28, 29, 30] (by decide +kernel) (by decide +kernel)
set_option maxRecDepth 20000 in
theorem gX7_steepest_X7_of : GoodIn wsX7_steepest (wsV RX7 79 RX7 yX7_of wsX7_of) := goodIn_app (goodIn_of _ (by decide +kernel)) ggX7_steepest_X7_of
theorem dX7_steepest_0 : decode cX7_steepest 0 = .ok (.iconst (-1), 1) := by decide +kernel
theorem dX7_steepest_1 : decode cX7_steepest 1 = .ok (.istore_n 3, 1) := by decide +kernel
theorem dX7_steepest_2 : decode cX7_steepest 2 = .ok (.aload_n 0, 1) := by decide +kernel
theorem dX7_steepest_3 : decode cX7_steepest 3 = .ok (.getfield 7, 3) := by decide +kernel
theorem dX7_steepest_6 : decode cX7_steepest 6 = .ok (.iconst 3, 1) := by decide +kernel
theorem dX7_steepest_7 : decode cX7_steepest 7 = .ok (.iaload, 1) := by decide +kernel
theorem dX7_steepest_8 : decode cX7_steepest 8 = .ok (.istore 4, 2) := by decide +kernel
theorem dX7_steepest_10 : decode cX7_steepest 10 = .ok (.iconst 0, 1) := by decide +kernel
theorem dX7_steepest_11 : decode cX7_steepest 11 = .ok (.istore 5, 2) := by decide +kernel
theorem dX7_steepest_13 : decode cX7_steepest 13 = .ok (.iload 5, 2) := by decide +kernel
theorem dX7_steepest_15 : decode cX7_steepest 15 = .ok (.iconst 4, 1) := by decide +kernel
theorem dX7_steepest_16 : decode cX7_steepest 16 = .ok (.if_icmp .ge 66, 3) := by decide +kernel
theorem dX7_steepest_19 : decode cX7_steepest 19 = .ok (.aload_n 0, 1) := by decide +kernel
theorem dX7_steepest_20 : decode cX7_steepest 20 = .ok (.iload_n 1, 1) := by decide +kernel
theorem dX7_steepest_21 : decode cX7_steepest 21 = .ok (.iload 5, 2) := by decide +kernel
theorem dX7_steepest_23 : decode cX7_steepest 23 = .ok (.invokevirtual 118, 3) := by decide +kernel
theorem dX7_steepest_26 : decode cX7_steepest 26 = .ok (.istore 6, 2) := by decide +kernel
theorem dX7_steepest_28 : decode cX7_steepest 28 = .ok (.iload_n 2, 1) := by decide +kernel
theorem dX7_steepest_29 : decode cX7_steepest 29 = .ok (.aload_n 0, 1) := by decide +kernel
theorem dX7_steepest_30 : decode cX7_steepest 30 = .ok (.iload_n 1, 1) := by decide +kernel
theorem dX7_steepest_31 : decode cX7_steepest 31 = .ok (.iconst 0, 1) := by decide +kernel
theorem dX7_steepest_32 : decode cX7_steepest 32 = .ok (.invokevirtual 79, 3) := by decide +kernel
theorem dX7_steepest_35 : decode cX7_steepest 35 = .ok (.aload_n 0, 1) := by decide +kernel
theorem dX7_steepest_36 : decode cX7_steepest 36 = .ok (.iload 6, 2) := by decide +kernel
theorem dX7_steepest_38 : decode cX7_steepest 38 = .ok (.iconst 0, 1) := by decide +kernel
theorem dX7_steepest_39 : decode cX7_steepest 39 = .ok (.invokevirtual 79, 3) := by decide +kernel
theorem dX7_steepest_42 : decode cX7_steepest 42 = .ok (.isub, 1) := by decide +kernel
theorem dX7_steepest_43 : decode cX7_steepest 43 = .ok (.imul, 1) := by decide +kernel
theorem dX7_steepest_44 : decode cX7_steepest 44 = .ok (.istore 7, 2) := by decide +kernel
theorem dX7_steepest_46 : decode cX7_steepest 46 = .ok (.iload 7, 2) := by decide +kernel
theorem dX7_steepest_48 : decode cX7_steepest 48 = .ok (.iload 4, 2) := by decide +kernel
theorem dX7_steepest_50 : decode cX7_steepest 50 = .ok (.if_icmp .le 8, 3) := by decide +kernel
theorem dX7_steepest_53 : decode cX7_steepest 53 = .ok (.iload 6, 2) := by decide +kernel
theorem dX7_steepest_55 : decode cX7_steepest 55 = .ok (.goto 4, 3) := by decide +kernel
theorem dX7_steepest_58 : decode cX7_steepest 58 = .ok (.iload_n 3, 1) := by decide +kernel
theorem dX7_steepest_59 : decode cX7_steepest 59 = .ok (.istore_n 3, 1) := by decide +kernel
theorem dX7_steepest_60 : decode cX7_steepest 60 = .ok (.iload 7, 2) := by decide +kernel
theorem dX7_steepest_62 : decode cX7_steepest 62 = .ok (.iload 4, 2) := by decide +kernel
theorem dX7_steepest_64 : decode cX7_steepest 64 = .ok (.if_icmp .le 8, 3) := by decide +kernel
theorem dX7_steepest_67 : decode cX7_steepest 67 = .ok (.iload 7, 2) := by decide +kernel
theorem dX7_steepest_69 : decode cX7_steepest 69 = .ok (.goto 5, 3) := by decide +kernel
theorem dX7_steepest_72 : decode cX7_steepest 72 = .ok (.iload 4, 2) := by decide +kernel
theorem dX7_steepest_74 : decode cX7_steepest 74 = .ok (.istore 4, 2) := by decide +kernel
theorem dX7_steepest_76 : decode cX7_steepest 76 = .ok (.iinc 5 1, 3) := by decide +kernel
theorem dX7_steepest_79 : decode cX7_steepest 79 = .ok (.goto (-66), 3) := by decide +kernel
theorem dX7_steepest_82 : decode cX7_steepest 82 = .ok (.iload_n 3, 1) := by decide +kernel
theorem dX7_steepest_83 : decode cX7_steepest 83 = .ok (.ireturn, 1) := by decide +kernel
set_option maxRecDepth 20000 in
theorem ggX7_hasGot_X7_steepest : GoodIn wsX7_hasGot wsX7_steepest := goodIn_r _ [5, 6, 7, 8, 9, 4, 10, 11, 12, 13, 14, 15, 16, 17, 18, 19, 20, 21, 26, 27, 28, 29, 30, 31, 32, 33, 34, 35, 36, 37, 38] (by decide +kernel) (by decide +kernel)
set_option maxRecDepth 20000 in
theorem gX7_hasGot_X7_steepest : GoodIn wsX7_hasGot (wsV RX7 121 RX7 yX7_steepest wsX7_steepest) := goodIn_app (goodIn_of _ (by decide +kernel)) ggX7_hasGot_X7_steepest
set_option maxRecDepth 20000 in
theorem ggX7_hasGot_X7_slides : GoodIn wsX7_hasGot wsX7_slides := goodIn_r _ [25, 6, 19, 20, 4, 21, 26, 27, 28, 29, 30, 31, 32, 33, 34, 35, 36, 37, 38] (by decide +kernel) (by decide +kernel)
set_option maxRecDepth 20000 in
theorem gX7_hasGot_X7_slides : GoodIn wsX7_hasGot (wsV RX7 124 RX7 yX7_slides wsX7_slides) := goodIn_app (goodIn_of _ (by decide +kernel)) ggX7_hasGot_X7_slides
theorem dX7_hasGot_0 : decode cX7_hasGot 0 = .ok (.iload_n 1, 1) := by decide +kernel
theorem dX7_hasGot_1 : decode cX7_hasGot 1 = .ok (.istore_n 2, 1) := by decide +kernel
theorem dX7_hasGot_2 : decode cX7_hasGot 2 = .ok (.aload_n 0, 1) := by decide +kernel
theorem dX7_hasGot_3 : decode cX7_hasGot 3 = .ok (.iload_n 2, 1) := by decide +kernel
theorem dX7_hasGot_4 : decode cX7_hasGot 4 = .ok (.iconst 1, 1) := by decide +kernel
theorem dX7_hasGot_5 : decode cX7_hasGot 5 = .ok (.invokevirtual 121, 3) := by decide +kernel
theorem dX7_hasGot_8 : decode cX7_hasGot 8 = .ok (.istore_n 3, 1) := by decide +kernel
theorem dX7_hasGot_9 : decode cX7_hasGot 9 = .ok (.iload_n 3, 1) := by decide +kernel
theorem dX7_hasGot_10 : decode cX7_hasGot 10 = .ok (.iconst (-1), 1) := by decide +kernel
theorem dX7_hasGot_11 : decode cX7_hasGot 11 = .ok (.if_icmp .eq 21, 3) := by decide +kernel
theorem dX7_hasGot_14 : decode cX7_hasGot 14 = .ok (.aload_n 0, 1) := by decide +kernel
theorem dX7_hasGot_15 : decode cX7_hasGot 15 = .ok (.iload_n 2, 1) := by decide +kernel
theorem dX7_hasGot_16 : decode cX7_hasGot 16 = .ok (.iload_n 3, 1) := by decide +kernel
theorem dX7_hasGot_17 : decode cX7_hasGot 17 = .ok (.invokevirtual 124, 3) := by decide +kernel
theorem dX7_hasGot_20 : decode cX7_hasGot 20 = .ok (.iload_n 3, 1) := by decide +kernel
theorem dX7_hasGot_21 : decode cX7_hasGot 21 = .ok (.istore_n 2, 1) := by decide +kernel
theorem dX7_hasGot_22 : decode cX7_hasGot 22 = .ok (.aload_n 0, 1) := by decide +kernel
theorem dX7_hasGot_23 : decode cX7_hasGot 23 = .ok (.iload_n 2, 1) := by decide +kernel
theorem dX7_hasGot_24 : decode cX7_hasGot 24 = .ok (.iconst 1, 1) := by decide +kernel
theorem dX7_hasGot_25 : decode cX7_hasGot 25 = .ok (.invokevirtual 121, 3) := by decide +kernel
theorem dX7_hasGot_28 : decode cX7_hasGot 28 = .ok (.istore_n 3, 1) := by decide +kernel
theorem dX7_hasGot_29 : decode cX7_hasGot 29 = .ok (.goto (-20), 3) := by decide +kernel
theorem dX7_hasGot_32 : decode cX7_hasGot 32 = .ok (.return_, 1) := by decide +kernel
set_option maxRecDepth 20000 in
theorem ggX7_hasLost_X7_steepest : GoodIn wsX7_hasLost wsX7_steepest := goodIn_r _ [5, 6, 7, 8, 9, 4, 10, 11, 12, 13, 14, 15, 16, 17, 18, 19, 20, 21, 26, 27, 28, 29, 30, 31, 32, 33, 34, 35, 36, 37, 38] (by decide +kernel) (by decide +kernel)
set_option maxRecDepth 20000 in
theorem gX7_hasLost_X7_steepest : GoodIn wsX7_hasLost (wsV RX7 121 RX7 yX7_steepest wsX7_steepest) := goodIn_app (goodIn_of _ (by decide +kernel)) ggX7_hasLost_X7_steepest
set_option maxRecDepth 20000 in
theorem ggX7_hasLost_X7_slides : GoodIn wsX7_hasLost wsX7_slides := goodIn_r _ [25, 6, 19, 20, 4, 21, 26, 27, 28, 29, 30, 31, 32, 33, 34, 35, 36, 37, 38] (by decide +kernel) (by decide +kernel)
set_option maxRecDepth 20000 in
theorem gX7_hasLost_X7_slides : GoodIn wsX7_hasLost (wsV RX7 124 RX7 yX7_slides wsX7_slides) := goodIn_app (goodIn_of _ (by decide +kernel)) ggX7_hasLost_X7_slides
theorem dX7_hasLost_0 : decode cX7_hasLost 0 = .ok (.iload_n 1, 1) := by decide +kernel
theorem dX7_hasLost_1 : decode cX7_hasLost 1 = .ok (.istore_n 2, 1) := by decide +kernel
theorem dX7_hasLost_2 : decode cX7_hasLost 2 = .ok (.aload_n 0, 1) := by decide +kernel
theorem dX7_hasLost_3 : decode cX7_hasLost 3 = .ok (.iload_n 2, 1) := by decide +kernel
theorem dX7_hasLost_4 : decode cX7_hasLost 4 = .ok (.iconst (-1), 1) := by decide +kernel
theorem dX7_hasLost_5 : decode cX7_hasLost 5 = .ok (.invokevirtual 121, 3) := by decide +kernel
theorem dX7_hasLost_8 : decode cX7_hasLost 8 = .ok (.istore_n 3, 1) := by decide +kernel
theorem dX7_hasLost_9 : decode cX7_hasLost 9 = .ok (.iload_n 3, 1) := by decide +kernel
theorem dX7_hasLost_10 : decode cX7_hasLost 10 = .ok (.iconst (-1), 1) := by decide +kernel
theorem dX7_hasLost_11 : decode cX7_hasLost 11 = .ok (.if_icmp .eq 21, 3) := by decide +kernel
theorem dX7_hasLost_14 : decode cX7_hasLost 14 = .ok (.aload_n 0, 1) := by decide +kernel
theorem dX7_hasLost_15 : decode cX7_hasLost 15 = .ok (.iload_n 3, 1) := by decide +kernel
theorem dX7_hasLost_16 : decode cX7_hasLost 16 = .ok (.iload_n 2, 1) := by decide +kernel
theorem dX7_hasLost_17 : decode cX7_hasLost 17 = .ok (.invokevirtual 124, 3) := by decide +kernel
theorem dX7_hasLost_20 : decode cX7_hasLost 20 = .ok (.iload_n 3, 1) := by decide +kernel
theorem dX7_hasLost_21 : decode cX7_hasLost 21 = .ok (.istore_n 2, 1) := by decide +kernel
theorem dX7_hasLost_22 : decode cX7_hasLost 22 = .ok (.aload_n 0, 1) := by decide +kernel
theorem dX7_hasLost_23 : decode cX7_hasLost 23 = .ok (.iload_n 2, 1) := by decide +kernel
theorem dX7_hasLost_24 : decode cX7_hasLost 24 = .ok (.iconst (-1), 1) := by decide +kernel
theorem dX7_hasLost_25 : decode cX7_hasLost 25 = .ok (.invokevirtual 121, 3) := by decide +kernel
theorem dX7_hasLost_28 : decode cX7_hasLost 28 = .ok (.istore_n 3, 1) := by decide +kernel
theorem dX7_hasLost_29 : decode cX7_hasLost 29 = .ok (.goto (-20), 3) := by decide +kernel
theorem dX7_hasLost_32 : decode cX7_hasLost 32 = .ok (.return_, 1) := by decide +kernel
set_option maxRecDepth 20000 in
theorem ggX7_reasonNotToLift_X7_of : GoodIn wsX7_reasonNotToLift wsX7_of := goodIn_r _ [5, 6, 7, 8, 4, 9, 30, 31, 32, 33, 34, 35, 36, 37, 38, 39, 40, 41, 42] (by decide +kernel) (by decide +kernel)
set_option maxRecDepth 20000 in
theorem gX7_reasonNotToLift_X7_of : GoodIn wsX7_reasonNotToLift (wsV RX7 79 RX7 yX7_of wsX7_of) := goodIn_app (goodIn_of _ (by decide +kernel)) ggX7_reasonNotToLift_X7_of
set_option maxRecDepth 20000 in
theorem ggX7_reasonNotToLift_X7_isInShadow : GoodIn wsX7_reasonNotToLift wsX7_isInShadow := goodIn_r _ [13, 6, 14, 15, 16, 4, 17, 18, 19, 20, 21, 1, 2, 3, 5, 7, 8, 9, 30, 31, 32, 33, 34, 35, 36, 37, 38, 39, 40, 41, 42] (by decide +kernel) (by decide +kernel)
set_option maxRecDepth 20000 in
theorem gX7_reasonNotToLift_X7_isInShadow : GoodIn wsX7_reasonNotToLift (wsV RX7 127 RX7 yX7_isInShadow wsX7_isInShadow) := goodIn_app (goodIn_of _ (by decide +kernel)) ggX7_reasonNotToLift_X7_isInShadow
set_option maxRecDepth 20000 in
theorem ggX7_reasonNotToLift_X7_draws : GoodIn wsX7_reasonNotToLift wsX7_draws := goodIn_r _ [25, 26, 6, 27, 28, 29, 30, 31, 32, 33, 34, 35, 36, 37, 38, 39, 40, 41, 42] (by decide +kernel) (by decide +kernel)
set_option maxRecDepth 20000 in
theorem gX7_reasonNotToLift_X7_draws : GoodIn wsX7_reasonNotToLift (wsV RX7 130 RX7 yX7_draws wsX7_draws) := goodIn_app (goodIn_of _ (by decide +kernel)) ggX7_reasonNotToLift_X7_draws
theorem dX7_reasonNotToLift_0 : decode cX7_reasonNotToLift 0 = .ok (.aload_n 0, 1) := by decide +kernel
theorem dX7_reasonNotToLift_1 : decode cX7_reasonNotToLift 1 = .ok (.iload_n 1, 1) := by decide +kernel
theorem dX7_reasonNotToLift_2 : decode cX7_reasonNotToLift 2 = .ok (.iconst 0, 1) := by decide +kernel
theorem dX7_reasonNotToLift_3 : decode cX7_reasonNotToLift 3 = .ok (.invokevirtual 79, 3) := by decide +kernel
theorem dX7_reasonNotToLift_6 : decode cX7_reasonNotToLift 6 = .ok (.ifCond .ne 5, 3) := by decide +kernel
theorem dX7_reasonNotToLift_9 : decode cX7_reasonNotToLift 9 = .ok (.iconst 1, 1) := by decide +kernel
theorem dX7_reasonNotToLift_10 : decode cX7_reasonNotToLift 10 = .ok (.ireturn, 1) := by decide +kernel
theorem dX7_reasonNotToLift_11 : decode cX7_reasonNotToLift 11 = .ok (.aload_n 0, 1) := by decide +kernel
theorem dX7_reasonNotToLift_12 : decode cX7_reasonNotToLift 12 = .ok (.iload_n 1, 1) := by decide +kernel
theorem dX7_reasonNotToLift_13 : decode cX7_reasonNotToLift 13 = .ok (.iconst 2, 1) := by decide +kernel
theorem dX7_reasonNotToLift_14 : decode cX7_reasonNotToLift 14 = .ok (.invokevirtual 79, 3) := by decide +kernel
theorem dX7_reasonNotToLift_17 : decode cX7_reasonNotToLift 17 = .ok (.iconst (-1), 1) := by decide +kernel
theorem dX7_reasonNotToLift_18 : decode cX7_reasonNotToLift 18 = .ok (.if_icmp .eq 5, 3) := by decide +kernel
theorem dX7_reasonNotToLift_21 : decode cX7_reasonNotToLift 21 = .ok (.iconst 2, 1) := by decide +kernel
theorem dX7_reasonNotToLift_22 : decode cX7_reasonNotToLift 22 = .ok (.ireturn, 1) := by decide +kernel
theorem dX7_reasonNotToLift_23 : decode cX7_reasonNotToLift 23 = .ok (.aload_n 0, 1) := by decide +kernel
theorem dX7_reasonNotToLift_24 : decode cX7_reasonNotToLift 24 = .ok (.iload_n 1, 1) := by decide +kernel
theorem dX7_reasonNotToLift_25 : decode cX7_reasonNotToLift 25 = .ok (.invokevirtual 127, 3) := by decide +kernel
theorem dX7_reasonNotToLift_28 : decode cX7_reasonNotToLift 28 = .ok (.ifCond .eq 5, 3) := by decide +kernel
theorem dX7_reasonNotToLift_31 : decode cX7_reasonNotToLift 31 = .ok (.iconst 3, 1) := by decide +kernel
theorem dX7_reasonNotToLift_32 : decode cX7_reasonNotToLift 32 = .ok (.ireturn, 1) := by decide +kernel
theorem dX7_reasonNotToLift_33 : decode cX7_reasonNotToLift 33 = .ok (.aload_n 0, 1) := by decide +kernel
theorem dX7_reasonNotToLift_34 : decode cX7_reasonNotToLift 34 = .ok (.bipush 100, 2) := by decide +kernel
theorem dX7_reasonNotToLift_36 : decode cX7_reasonNotToLift 36 = .ok (.invokevirtual 130, 3) := by decide +kernel
theorem dX7_reasonNotToLift_39 : decode cX7_reasonNotToLift 39 = .ok (.aload_n 0, 1) := by decide +kernel
theorem dX7_reasonNotToLift_40 : decode cX7_reasonNotToLift 40 = .ok (.iload_n 1, 1) := by decide +kernel
theorem dX7_reasonNotToLift_41 : decode cX7_reasonNotToLift 41 = .ok (.iconst 1, 1) := by decide +kernel
theorem dX7_reasonNotToLift_42 : decode cX7_reasonNotToLift 42 = .ok (.invokevirtual 79, 3) := by decide +kernel
theorem dX7_reasonNotToLift_45 : decode cX7_reasonNotToLift 45 = .ok (.if_icmp .ge 7, 3) := by decide +kernel
theorem dX7_reasonNotToLift_48 : decode cX7_reasonNotToLift 48 = .ok (.iconst 4, 1) := by decide +kernel
theorem dX7_reasonNotToLift_49 : decode cX7_reasonNotToLift 49 = .ok (.goto 4, 3) := by decide +kernel
theorem dX7_reasonNotToLift_52 : decode cX7_reasonNotToLift 52 = .ok (.iconst 0, 1) := by decide +kernel
theorem dX7_reasonNotToLift_53 : decode cX7_reasonNotToLift 53 = .ok (.ireturn, 1) := by decide +kernel
theorem dX7_crosses_0 : decode cX7_crosses 0 = .ok (.aload_n 0, 1) := by decide +kernel
theorem dX7_crosses_1 : decode cX7_crosses 1 = .ok (.getfield 7, 3) := by decide +kernel
theorem dX7_crosses_4 : decode cX7_crosses 4 = .ok (.iconst 5, 1) := by decide +kernel
theorem dX7_crosses_5 : decode cX7_crosses 5 = .ok (.iaload, 1) := by decide +kernel
theorem dX7_crosses_6 : decode cX7_crosses 6 = .ok (.istore_n 3, 1) := by decide +kernel
theorem dX7_crosses_7 : decode cX7_crosses 7 = .ok (.aload_n 0, 1) := by decide +kernel
theorem dX7_crosses_8 : decode cX7_crosses 8 = .ok (.getfield 7, 3) := by decide +kernel
theorem dX7_crosses_11 : decode cX7_crosses 11 = .ok (.bipush 19, 2) := by decide +kernel
theorem dX7_crosses_13 : decode cX7_crosses 13 = .ok (.dup2, 1) := by decide +kernel
theorem dX7_crosses_14 : decode cX7_crosses 14 = .ok (.iaload, 1) := by decide +kernel
theorem dX7_crosses_15 : decode cX7_crosses 15 = .ok (.aload_n 0, 1) := by decide +kernel
theorem dX7_crosses_16 : decode cX7_crosses 16 = .ok (.getfield 7, 3) := by decide +kernel
theorem dX7_crosses_19 : decode cX7_crosses 19 = .ok (.bipush 6, 2) := by decide +kernel
theorem dX7_crosses_21 : decode cX7_crosses 21 = .ok (.iaload, 1) := by decide +kernel
theorem dX7_crosses_22 : decode cX7_crosses 22 = .ok (.ifCond .ne 22, 3) := by decide +kernel
theorem dX7_crosses_25 : decode cX7_crosses 25 = .ok (.iload_n 1, 1) := by decide +kernel
theorem dX7_crosses_26 : decode cX7_crosses 26 = .ok (.iload_n 3, 1) := by decide +kernel
theorem dX7_crosses_27 : decode cX7_crosses 27 = .ok (.irem, 1) := by decide +kernel
theorem dX7_crosses_28 : decode cX7_crosses 28 = .ok (.iload_n 3, 1) := by decide +kernel
theorem dX7_crosses_29 : decode cX7_crosses 29 = .ok (.iconst 1, 1) := by decide +kernel
theorem dX7_crosses_30 : decode cX7_crosses 30 = .ok (.isub, 1) := by decide +kernel
theorem dX7_crosses_31 : decode cX7_crosses 31 = .ok (.if_icmp .ne 13, 3) := by decide +kernel
theorem dX7_crosses_34 : decode cX7_crosses 34 = .ok (.iload_n 2, 1) := by decide +kernel
theorem dX7_crosses_35 : decode cX7_crosses 35 = .ok (.iload_n 3, 1) := by decide +kernel
theorem dX7_crosses_36 : decode cX7_crosses 36 = .ok (.irem, 1) := by decide +kernel
theorem dX7_crosses_37 : decode cX7_crosses 37 = .ok (.ifCond .ne 7, 3) := by decide +kernel
theorem dX7_crosses_40 : decode cX7_crosses 40 = .ok (.iconst 1, 1) := by decide +kernel
theorem dX7_crosses_41 : decode cX7_crosses 41 = .ok (.goto 4, 3) := by decide +kernel
theorem dX7_crosses_44 : decode cX7_crosses 44 = .ok (.iconst 0, 1) := by decide +kernel
theorem dX7_crosses_45 : decode cX7_crosses 45 = .ok (.iadd, 1) := by decide +kernel
theorem dX7_crosses_46 : decode cX7_crosses 46 = .ok (.iastore, 1) := by decide +kernel
theorem dX7_crosses_47 : decode cX7_crosses 47 = .ok (.aload_n 0, 1) := by decide +kernel
theorem dX7_crosses_48 : decode cX7_crosses 48 = .ok (.getfield 7, 3) := by decide +kernel
theorem dX7_crosses_51 : decode cX7_crosses 51 = .ok (.bipush 20, 2) := by decide +kernel
theorem dX7_crosses_53 : decode cX7_crosses 53 = .ok (.dup2, 1) := by decide +kernel
theorem dX7_crosses_54 : decode cX7_crosses 54 = .ok (.iaload, 1) := by decide +kernel
theorem dX7_crosses_55 : decode cX7_crosses 55 = .ok (.aload_n 0, 1) := by decide +kernel
theorem dX7_crosses_56 : decode cX7_crosses 56 = .ok (.getfield 7, 3) := by decide +kernel
theorem dX7_crosses_59 : decode cX7_crosses 59 = .ok (.bipush 6, 2) := by decide +kernel
theorem dX7_crosses_61 : decode cX7_crosses 61 = .ok (.iaload, 1) := by decide +kernel
theorem dX7_crosses_62 : decode cX7_crosses 62 = .ok (.iconst 2, 1) := by decide +kernel
theorem dX7_crosses_63 : decode cX7_crosses 63 = .ok (.if_icmp .ne 22, 3) := by decide +kernel
theorem dX7_crosses_66 : decode cX7_crosses 66 = .ok (.iload_n 1, 1) := by decide +kernel
theorem dX7_crosses_67 : decode cX7_crosses 67 = .ok (.iload_n 3, 1) := by decide +kernel
theorem dX7_crosses_68 : decode cX7_crosses 68 = .ok (.irem, 1) := by decide +kernel
theorem dX7_crosses_69 : decode cX7_crosses 69 = .ok (.ifCond .ne 16, 3) := by decide +kernel
theorem dX7_crosses_72 : decode cX7_crosses 72 = .ok (.iload_n 2, 1) := by decide +kernel
theorem dX7_crosses_73 : decode cX7_crosses 73 = .ok (.iload_n 3, 1) := by decide +kernel
theorem dX7_crosses_74 : decode cX7_crosses 74 = .ok (.irem, 1) := by decide +kernel
theorem dX7_crosses_75 : decode cX7_crosses 75 = .ok (.iload_n 3, 1) := by decide +kernel
theorem dX7_crosses_76 : decode cX7_crosses 76 = .ok (.iconst 1, 1) := by decide +kernel
theorem dX7_crosses_77 : decode cX7_crosses 77 = .ok (.isub, 1) := by decide +kernel
theorem dX7_crosses_78 : decode cX7_crosses 78 = .ok (.if_icmp .ne 7, 3) := by decide +kernel
theorem dX7_crosses_81 : decode cX7_crosses 81 = .ok (.iconst 1, 1) := by decide +kernel
theorem dX7_crosses_82 : decode cX7_crosses 82 = .ok (.goto 4, 3) := by decide +kernel
theorem dX7_crosses_85 : decode cX7_crosses 85 = .ok (.iconst 0, 1) := by decide +kernel
theorem dX7_crosses_86 : decode cX7_crosses 86 = .ok (.iadd, 1) := by decide +kernel
theorem dX7_crosses_87 : decode cX7_crosses 87 = .ok (.iastore, 1) := by decide +kernel
theorem dX7_crosses_88 : decode cX7_crosses 88 = .ok (.return_, 1) := by decide +kernel
set_option maxRecDepth 20000 in
theorem ggX7_isTrapped_X7_downwind : GoodIn wsX7_isTrapped wsX7_downwind := goodIn_r _ [8, 2, 9, 10, 11, 7, 12, 24, 25, 26, 27, 28, 29, 30, 31, 32, 33, 34, 35, 36] (by decide +kernel) (by decide +kernel)
set_option maxRecDepth 20000 in
theorem gX7_isTrapped_X7_downwind : GoodIn wsX7_isTrapped (wsV RX7 107 RX7 yX7_downwind wsX7_downwind) := goodIn_app (goodIn_of _ (by decide +kernel)) ggX7_isTrapped_X7_downwind
set_option maxRecDepth 20000 in
theorem ggX7_isTrapped_X7_crosses : GoodIn wsX7_isTrapped wsX7_crosses := goodIn_r _ [16, 2, 24, 25, 26, 27, 28, 29, 30, 31, 32, 33, 34, 35, 36] (by decide +kernel) (by decide +kernel)
set_option maxRecDepth 20000 in
theorem gX7_isTrapped_X7_crosses : GoodIn wsX7_isTrapped (wsV RX7 140 RX7 yX7_crosses wsX7_crosses) := goodIn_app (goodIn_of _ (by decide +kernel)) ggX7_isTrapped_X7_crosses
set_option maxRecDepth 20000 in
theorem ggX7_isTrapped_X7_of : GoodIn wsX7_isTrapped wsX7_of := goodIn_r _ [20, 2, 21, 22, 7, 23, 24, 25, 26, 27, 28, 29, 30, 31, 32, 33, 34, 35, 36] (by decide +kernel) (by decide +kernel)
set_option maxRecDepth 20000 in
theorem gX7_isTrapped_X7_of : GoodIn wsX7_isTrapped (wsV RX7 79 RX7 yX7_of wsX7_of) := goodIn_app (goodIn_of _ (by decide +kernel)) ggX7_isTrapped_X7_of
set_option maxRecDepth 20000 in
theorem ggX7_isTrapped_X7_at : GoodIn wsX7_isTrapped wsX7_at := goodIn_r _ [23] (by decide +kernel) (by decide +kernel)
set_option maxRecDepth 20000 in
theorem gX7_isTrapped_X7_at : GoodIn wsX7_isTrapped (va_wsS RX7 39 yX7_at wsX7_at) := goodIn_app (goodIn_of _ (by decide +kernel)) ggX7_isTrapped_X7_at
theorem dX7_isTrapped_0 : decode cX7_isTrapped 0 = .ok (.aload_n 0, 1) := by decide +kernel
theorem dX7_isTrapped_1 : decode cX7_isTrapped 1 = .ok (.dup, 1) := by decide +kernel
theorem dX7_isTrapped_2 : decode cX7_isTrapped 2 = .ok (.getfield 134, 3) := by decide +kernel
theorem dX7_isTrapped_5 : decode cX7_isTrapped 5 = .ok (.iconst 1, 1) := by decide +kernel
theorem dX7_isTrapped_6 : decode cX7_isTrapped 6 = .ok (.iadd, 1) := by decide +kernel
theorem dX7_isTrapped_7 : decode cX7_isTrapped 7 = .ok (.putfield 134, 3) := by decide +kernel
theorem dX7_isTrapped_10 : decode cX7_isTrapped 10 = .ok (.iconst 0, 1) := by decide +kernel
theorem dX7_isTrapped_11 : decode cX7_isTrapped 11 = .ok (.istore_n 1, 1) := by decide +kernel
theorem dX7_isTrapped_12 : decode cX7_isTrapped 12 = .ok (.iload_n 1, 1) := by decide +kernel
theorem dX7_isTrapped_13 : decode cX7_isTrapped 13 = .ok (.aload_n 0, 1) := by decide +kernel
theorem dX7_isTrapped_14 : decode cX7_isTrapped 14 = .ok (.getfield 7, 3) := by decide +kernel
theorem dX7_isTrapped_17 : decode cX7_isTrapped 17 = .ok (.iconst 0, 1) := by decide +kernel
theorem dX7_isTrapped_18 : decode cX7_isTrapped 18 = .ok (.iaload, 1) := by decide +kernel
theorem dX7_isTrapped_19 : decode cX7_isTrapped 19 = .ok (.if_icmp .ge 73, 3) := by decide +kernel
theorem dX7_isTrapped_22 : decode cX7_isTrapped 22 = .ok (.aload_n 0, 1) := by decide +kernel
theorem dX7_isTrapped_23 : decode cX7_isTrapped 23 = .ok (.aload_n 0, 1) := by decide +kernel
theorem dX7_isTrapped_24 : decode cX7_isTrapped 24 = .ok (.getfield 137, 3) := by decide +kernel
theorem dX7_isTrapped_27 : decode cX7_isTrapped 27 = .ok (.iconst 1, 1) := by decide +kernel
theorem dX7_isTrapped_28 : decode cX7_isTrapped 28 = .ok (.invokevirtual 107, 3) := by decide +kernel
theorem dX7_isTrapped_31 : decode cX7_isTrapped 31 = .ok (.istore_n 2, 1) := by decide +kernel
theorem dX7_isTrapped_32 : decode cX7_isTrapped 32 = .ok (.aload_n 0, 1) := by decide +kernel
theorem dX7_isTrapped_33 : decode cX7_isTrapped 33 = .ok (.aload_n 0, 1) := by decide +kernel
theorem dX7_isTrapped_34 : decode cX7_isTrapped 34 = .ok (.getfield 137, 3) := by decide +kernel
theorem dX7_isTrapped_37 : decode cX7_isTrapped 37 = .ok (.iload_n 2, 1) := by decide +kernel
theorem dX7_isTrapped_38 : decode cX7_isTrapped 38 = .ok (.invokevirtual 140, 3) := by decide +kernel
theorem dX7_isTrapped_41 : decode cX7_isTrapped 41 = .ok (.aload_n 0, 1) := by decide +kernel
theorem dX7_isTrapped_42 : decode cX7_isTrapped 42 = .ok (.iload_n 2, 1) := by decide +kernel
theorem dX7_isTrapped_43 : decode cX7_isTrapped 43 = .ok (.putfield 137, 3) := by decide +kernel
theorem dX7_isTrapped_46 : decode cX7_isTrapped 46 = .ok (.aload_n 0, 1) := by decide +kernel
theorem dX7_isTrapped_47 : decode cX7_isTrapped 47 = .ok (.aload_n 0, 1) := by decide +kernel
theorem dX7_isTrapped_48 : decode cX7_isTrapped 48 = .ok (.getfield 137, 3) := by decide +kernel
theorem dX7_isTrapped_51 : decode cX7_isTrapped 51 = .ok (.iconst 3, 1) := by decide +kernel
theorem dX7_isTrapped_52 : decode cX7_isTrapped 52 = .ok (.invokevirtual 79, 3) := by decide +kernel
theorem dX7_isTrapped_55 : decode cX7_isTrapped 55 = .ok (.aload_n 0, 1) := by decide +kernel
theorem dX7_isTrapped_56 : decode cX7_isTrapped 56 = .ok (.aload_n 0, 1) := by decide +kernel
theorem dX7_isTrapped_57 : decode cX7_isTrapped 57 = .ok (.getfield 137, 3) := by decide +kernel
theorem dX7_isTrapped_60 : decode cX7_isTrapped 60 = .ok (.iconst 2, 1) := by decide +kernel
theorem dX7_isTrapped_61 : decode cX7_isTrapped 61 = .ok (.invokevirtual 79, 3) := by decide +kernel
theorem dX7_isTrapped_64 : decode cX7_isTrapped 64 = .ok (.if_icmp .ge 22, 3) := by decide +kernel
theorem dX7_isTrapped_67 : decode cX7_isTrapped 67 = .ok (.aload_n 0, 1) := by decide +kernel
theorem dX7_isTrapped_68 : decode cX7_isTrapped 68 = .ok (.getfield 7, 3) := by decide +kernel
theorem dX7_isTrapped_71 : decode cX7_isTrapped 71 = .ok (.aload_n 0, 1) := by decide +kernel
theorem dX7_isTrapped_72 : decode cX7_isTrapped 72 = .ok (.getfield 137, 3) := by decide +kernel
theorem dX7_isTrapped_75 : decode cX7_isTrapped 75 = .ok (.iconst 3, 1) := by decide +kernel
theorem dX7_isTrapped_76 : decode cX7_isTrapped 76 = .ok (.invokestatic 39, 3) := by decide +kernel
theorem dX7_isTrapped_79 : decode cX7_isTrapped 79 = .ok (.dup2, 1) := by decide +kernel
theorem dX7_isTrapped_80 : decode cX7_isTrapped 80 = .ok (.iaload, 1) := by decide +kernel
theorem dX7_isTrapped_81 : decode cX7_isTrapped 81 = .ok (.iconst 1, 1) := by decide +kernel
theorem dX7_isTrapped_82 : decode cX7_isTrapped 82 = .ok (.iadd, 1) := by decide +kernel
theorem dX7_isTrapped_83 : decode cX7_isTrapped 83 = .ok (.iastore, 1) := by decide +kernel
theorem dX7_isTrapped_84 : decode cX7_isTrapped 84 = .ok (.iconst 1, 1) := by decide +kernel
theorem dX7_isTrapped_85 : decode cX7_isTrapped 85 = .ok (.ireturn, 1) := by decide +kernel
theorem dX7_isTrapped_86 : decode cX7_isTrapped 86 = .ok (.iinc 1 1, 3) := by decide +kernel
theorem dX7_isTrapped_89 : decode cX7_isTrapped 89 = .ok (.goto (-77), 3) := by decide +kernel
theorem dX7_isTrapped_92 : decode cX7_isTrapped 92 = .ok (.iconst 0, 1) := by decide +kernel
theorem dX7_isTrapped_93 : decode cX7_isTrapped 93 = .ok (.ireturn, 1) := by decide +kernel
set_option maxRecDepth 20000 in
theorem ggX7_reasonToStay_X7_isTrapped : GoodIn wsX7_reasonToStay wsX7_isTrapped := goodIn_r _ [8, 3, 2, 1, 9, 10, 11, 7, 12, 13, 14, 15, 16, 17, 18, 19, 20, 21, 22, 23, 24, 25, 26, 27, 40, 41, 42, 43, 44, 45, 46, 47, 48, 49, 50, 51, 52] (by decide +kernel) (by decide +kernel)
set_option maxRecDepth 20000 in
theorem gX7_reasonToStay_X7_isTrapped : GoodIn wsX7_reasonToStay (wsV RX7 143 RX7 yX7_isTrapped wsX7_isTrapped) := goodIn_app (goodIn_of _ (by decide +kernel)) ggX7_reasonToStay_X7_isTrapped
set_option maxRecDepth 20000 in
theorem ggX7_reasonToStay_X7_isInShadow : GoodIn wsX7_reasonToStay wsX7_isInShadow := goodIn_r _ [31, 2, 9, 10, 11, 7, 12, 13, 14, 15, 16, 21, 22, 23, 24, 25, 26, 27, 40, 41, 42, 43, 44, 45, 46, 47, 48, 49, 50, 51, 52] (by decide +kernel) (by decide +kernel)
set_option maxRecDepth 20000 in
theorem gX7_reasonToStay_X7_isInShadow : GoodIn wsX7_reasonToStay (wsV RX7 127 RX7 yX7_isInShadow wsX7_isInShadow) := goodIn_app (goodIn_of _ (by decide +kernel)) ggX7_reasonToStay_X7_isInShadow
set_option maxRecDepth 20000 in
theorem ggX7_reasonToStay_X7_of : GoodIn wsX7_reasonToStay wsX7_of := goodIn_r _ [24, 2, 25, 26, 7, 27, 40, 41, 42, 43, 44, 45, 46, 47, 48, 49, 50, 51, 52] (by decide +kernel) (by decide +kernel)
set_option maxRecDepth 20000 in
theorem gX7_reasonToStay_X7_of : GoodIn wsX7_reasonToStay (wsV RX7 79 RX7 yX7_of wsX7_of) := goodIn_app (goodIn_of _ (by decide +kernel)) ggX7_reasonToStay_X7_of
set_option maxRecDepth 20000 in
theorem ggX7_reasonToStay_X7_draws : GoodIn wsX7_reasonToStay wsX7_draws := goodIn_r _ [35, 36, 2, 37, 38, 39, 40, 41, 42, 43, 44, 45, 46, 47, 48, 49, 50, 51, 52] (by decide +kernel) (by decide +kernel)
set_option maxRecDepth 20000 in
theorem gX7_reasonToStay_X7_draws : GoodIn wsX7_reasonToStay (wsV RX7 130 RX7 yX7_draws wsX7_draws) := goodIn_app (goodIn_of _ (by decide +kernel)) ggX7_reasonToStay_X7_draws
theorem dX7_reasonToStay_0 : decode cX7_reasonToStay 0 = .ok (.aload_n 0, 1) := by decide +kernel
theorem dX7_reasonToStay_1 : decode cX7_reasonToStay 1 = .ok (.invokevirtual 143, 3) := by decide +kernel
theorem dX7_reasonToStay_4 : decode cX7_reasonToStay 4 = .ok (.ifCond .eq 5, 3) := by decide +kernel
theorem dX7_reasonToStay_7 : decode cX7_reasonToStay 7 = .ok (.iconst 5, 1) := by decide +kernel
theorem dX7_reasonToStay_8 : decode cX7_reasonToStay 8 = .ok (.ireturn, 1) := by decide +kernel
theorem dX7_reasonToStay_9 : decode cX7_reasonToStay 9 = .ok (.aload_n 0, 1) := by decide +kernel
theorem dX7_reasonToStay_10 : decode cX7_reasonToStay 10 = .ok (.aload_n 0, 1) := by decide +kernel
theorem dX7_reasonToStay_11 : decode cX7_reasonToStay 11 = .ok (.getfield 137, 3) := by decide +kernel
theorem dX7_reasonToStay_14 : decode cX7_reasonToStay 14 = .ok (.invokevirtual 127, 3) := by decide +kernel
theorem dX7_reasonToStay_17 : decode cX7_reasonToStay 17 = .ok (.ifCond .eq 6, 3) := by decide +kernel
theorem dX7_reasonToStay_20 : decode cX7_reasonToStay 20 = .ok (.bipush 6, 2) := by decide +kernel
theorem dX7_reasonToStay_22 : decode cX7_reasonToStay 22 = .ok (.ireturn, 1) := by decide +kernel
theorem dX7_reasonToStay_23 : decode cX7_reasonToStay 23 = .ok (.aload_n 0, 1) := by decide +kernel
theorem dX7_reasonToStay_24 : decode cX7_reasonToStay 24 = .ok (.getfield 7, 3) := by decide +kernel
theorem dX7_reasonToStay_27 : decode cX7_reasonToStay 27 = .ok (.aload_n 0, 1) := by decide +kernel
theorem dX7_reasonToStay_28 : decode cX7_reasonToStay 28 = .ok (.aload_n 0, 1) := by decide +kernel
theorem dX7_reasonToStay_29 : decode cX7_reasonToStay 29 = .ok (.getfield 137, 3) := by decide +kernel
theorem dX7_reasonToStay_32 : decode cX7_reasonToStay 32 = .ok (.iconst 0, 1) := by decide +kernel
theorem dX7_reasonToStay_33 : decode cX7_reasonToStay 33 = .ok (.invokevirtual 79, 3) := by decide +kernel
theorem dX7_reasonToStay_36 : decode cX7_reasonToStay 36 = .ok (.ifCond .ne 7, 3) := by decide +kernel
theorem dX7_reasonToStay_39 : decode cX7_reasonToStay 39 = .ok (.iconst 2, 1) := by decide +kernel
theorem dX7_reasonToStay_40 : decode cX7_reasonToStay 40 = .ok (.goto 4, 3) := by decide +kernel
theorem dX7_reasonToStay_43 : decode cX7_reasonToStay 43 = .ok (.iconst 1, 1) := by decide +kernel
theorem dX7_reasonToStay_44 : decode cX7_reasonToStay 44 = .ok (.iaload, 1) := by decide +kernel
theorem dX7_reasonToStay_45 : decode cX7_reasonToStay 45 = .ok (.aload_n 0, 1) := by decide +kernel
theorem dX7_reasonToStay_46 : decode cX7_reasonToStay 46 = .ok (.aload_n 0, 1) := by decide +kernel
theorem dX7_reasonToStay_47 : decode cX7_reasonToStay 47 = .ok (.getfield 137, 3) := by decide +kernel
theorem dX7_reasonToStay_50 : decode cX7_reasonToStay 50 = .ok (.iconst 1, 1) := by decide +kernel
theorem dX7_reasonToStay_51 : decode cX7_reasonToStay 51 = .ok (.invokevirtual 79, 3) := by decide +kernel
theorem dX7_reasonToStay_54 : decode cX7_reasonToStay 54 = .ok (.iadd, 1) := by decide +kernel
theorem dX7_reasonToStay_55 : decode cX7_reasonToStay 55 = .ok (.istore_n 1, 1) := by decide +kernel
theorem dX7_reasonToStay_56 : decode cX7_reasonToStay 56 = .ok (.aload_n 0, 1) := by decide +kernel
theorem dX7_reasonToStay_57 : decode cX7_reasonToStay 57 = .ok (.bipush 100, 2) := by decide +kernel
theorem dX7_reasonToStay_59 : decode cX7_reasonToStay 59 = .ok (.invokevirtual 130, 3) := by decide +kernel
theorem dX7_reasonToStay_62 : decode cX7_reasonToStay 62 = .ok (.iload_n 1, 1) := by decide +kernel
theorem dX7_reasonToStay_63 : decode cX7_reasonToStay 63 = .ok (.if_icmp .ge 8, 3) := by decide +kernel
theorem dX7_reasonToStay_66 : decode cX7_reasonToStay 66 = .ok (.bipush 7, 2) := by decide +kernel
theorem dX7_reasonToStay_68 : decode cX7_reasonToStay 68 = .ok (.goto 18, 3) := by decide +kernel
theorem dX7_reasonToStay_71 : decode cX7_reasonToStay 71 = .ok (.aload_n 0, 1) := by decide +kernel
theorem dX7_reasonToStay_72 : decode cX7_reasonToStay 72 = .ok (.getfield 134, 3) := by decide +kernel
theorem dX7_reasonToStay_75 : decode cX7_reasonToStay 75 = .ok (.bipush 12, 2) := by decide +kernel
theorem dX7_reasonToStay_77 : decode cX7_reasonToStay 77 = .ok (.if_icmp .ne 8, 3) := by decide +kernel
theorem dX7_reasonToStay_80 : decode cX7_reasonToStay 80 = .ok (.bipush 8, 2) := by decide +kernel
theorem dX7_reasonToStay_82 : decode cX7_reasonToStay 82 = .ok (.goto 4, 3) := by decide +kernel
theorem dX7_reasonToStay_85 : decode cX7_reasonToStay 85 = .ok (.iconst 0, 1) := by decide +kernel
theorem dX7_reasonToStay_86 : decode cX7_reasonToStay 86 = .ok (.ireturn, 1) := by decide +kernel
set_option maxRecDepth 20000 in
theorem ggX7_steps_X7_cells : GoodIn wsX7_steps wsX7_cells := goodIn_r _ [8, 3, 72, 73, 74, 75, 76, 77, 78, 79, 80, 81, 82, 83, 84] (by decide +kernel) (by decide +kernel)
set_option maxRecDepth 20000 in
theorem gX7_steps_X7_cells : GoodIn wsX7_steps (wsV RX7 43 RX7 yX7_cells wsX7_cells) := goodIn_app (goodIn_of _ (by decide +kernel)) ggX7_steps_X7_cells
set_option maxRecDepth 20000 in
theorem ggX7_steps_X7_draws : GoodIn wsX7_steps wsX7_draws := goodIn_r _ [12, 13, 3, 14, 15, 16, 72, 73, 74, 75, 76, 77, 78, 79, 80, 81, 82, 83, 84] (by decide +kernel) (by decide +kernel)
set_option maxRecDepth 20000 in
theorem gX7_steps_X7_draws : GoodIn wsX7_steps (wsV RX7 130 RX7 yX7_draws wsX7_draws) := goodIn_app (goodIn_of _ (by decide +kernel)) ggX7_steps_X7_draws
set_option maxRecDepth 20000 in
theorem ggX7_steps_X7_reasonNotToLift : GoodIn wsX7_steps wsX7_reasonNotToLift := goodIn_r _ [20, 21, 22, 23, 7, 24, 3, 25, 26, 27, 28, 29, 30, 31, 32, 33, 34, 35, 36, 37, 38, 39, 9, 10, 11, 12, 13, 14, 15, 16, 72, 73, 74, 75, 76, 77, 78, 79, 80, 81, 82, 83, 84] (by decide +kernel) (by decide +kernel)
set_option maxRecDepth 20000 in
theorem gX7_steps_X7_reasonNotToLift : GoodIn wsX7_steps (wsV RX7 147 RX7 yX7_reasonNotToLift wsX7_reasonNotToLift) := goodIn_app (goodIn_of _ (by decide +kernel)) ggX7_steps_X7_reasonNotToLift
set_option maxRecDepth 20000 in
theorem ggX7_steps_X7_at : GoodIn wsX7_steps wsX7_at := goodIn_r _ [27] (by decide +kernel) (by decide +kernel)
set_option maxRecDepth 20000 in
theorem gX7_steps_X7_at : GoodIn wsX7_steps (va_wsS RX7 39 yX7_at wsX7_at) := goodIn_app (goodIn_of _ (by decide +kernel)) ggX7_steps_X7_at
set_option maxRecDepth 20000 in
theorem ggX7_steps_X7_hasLost : GoodIn wsX7_steps wsX7_hasLost := goodIn_r _ [43, 44, 45, 46, 7, 47, 3, 48, 49, 50, 51, 36, 37, 38, 39, 21, 22, 23, 24, 25, 26, 27, 52, 53, 54, 55, 72, 73, 74, 75, 76, 77, 78, 79, 80, 81, 82, 83, 84] (by decide +kernel) (by decide +kernel)
set_option maxRecDepth 20000 in
theorem gX7_steps_X7_hasLost : GoodIn wsX7_steps (wsV RX7 150 RX7 yX7_hasLost wsX7_hasLost) := goodIn_app (goodIn_of _ (by decide +kernel)) ggX7_steps_X7_hasLost
set_option maxRecDepth 20000 in
theorem ggX7_steps_X7_reasonToStay : GoodIn wsX7_steps wsX7_reasonToStay := goodIn_r _ [59, 1, 3, 2, 60, 61, 62, 7, 63, 32, 33, 34, 35, 36, 37, 38, 39, 64, 65, 66, 67, 21, 22, 23, 24, 25, 26, 27, 28, 29, 30, 31, 9, 10, 11, 12, 13, 14, 15, 16, 72, 73, 74, 75, 76, 77, 78, 79, 80, 81, 82, 83, 84] (by decide +kernel) (by decide +kernel)
set_option maxRecDepth 20000 in
theorem gX7_steps_X7_reasonToStay : GoodIn wsX7_steps (wsV RX7 154 RX7 yX7_reasonToStay wsX7_reasonToStay) := goodIn_app (goodIn_of _ (by decide +kernel)) ggX7_steps_X7_reasonToStay
set_option maxRecDepth 20000 in
theorem ggX7_steps_X7_hasGot : GoodIn wsX7_steps wsX7_hasGot := goodIn_r _ [71, 44, 45, 46, 7, 47, 3, 48, 49, 50, 51, 36, 37, 38, 39, 21, 22, 23, 24, 25, 26, 27, 52, 53, 54, 55, 72, 73, 74, 75, 76, 77, 78, 79, 80, 81, 82, 83, 84] (by decide +kernel) (by decide +kernel)
set_option maxRecDepth 20000 in
theorem gX7_steps_X7_hasGot : GoodIn wsX7_steps (wsV RX7 157 RX7 yX7_hasGot wsX7_hasGot) := goodIn_app (goodIn_of _ (by decide +kernel)) ggX7_steps_X7_hasGot
theorem dX7_steps_0 : decode cX7_steps 0 = .ok (.aload_n 0, 1) := by decide +kernel
theorem dX7_steps_1 : decode cX7_steps 1 = .ok (.aload_n 0, 1) := by decide +kernel
theorem dX7_steps_2 : decode cX7_steps 2 = .ok (.invokevirtual 43, 3) := by decide +kernel
theorem dX7_steps_5 : decode cX7_steps 5 = .ok (.invokevirtual 130, 3) := by decide +kernel
theorem dX7_steps_8 : decode cX7_steps 8 = .ok (.istore_n 1, 1) := by decide +kernel
theorem dX7_steps_9 : decode cX7_steps 9 = .ok (.aload_n 0, 1) := by decide +kernel
theorem dX7_steps_10 : decode cX7_steps 10 = .ok (.iload_n 1, 1) := by decide +kernel
theorem dX7_steps_11 : decode cX7_steps 11 = .ok (.invokevirtual 147, 3) := by decide +kernel
theorem dX7_steps_14 : decode cX7_steps 14 = .ok (.istore_n 2, 1) := by decide +kernel
theorem dX7_steps_15 : decode cX7_steps 15 = .ok (.iload_n 2, 1) := by decide +kernel
theorem dX7_steps_16 : decode cX7_steps 16 = .ok (.ifCond .ne 7, 3) := by decide +kernel
theorem dX7_steps_19 : decode cX7_steps 19 = .ok (.iconst 1, 1) := by decide +kernel
theorem dX7_steps_20 : decode cX7_steps 20 = .ok (.goto 4, 3) := by decide +kernel
theorem dX7_steps_23 : decode cX7_steps 23 = .ok (.iconst 0, 1) := by decide +kernel
theorem dX7_steps_24 : decode cX7_steps 24 = .ok (.istore_n 3, 1) := by decide +kernel
theorem dX7_steps_25 : decode cX7_steps 25 = .ok (.aload_n 0, 1) := by decide +kernel
theorem dX7_steps_26 : decode cX7_steps 26 = .ok (.iconst (-1), 1) := by decide +kernel
theorem dX7_steps_27 : decode cX7_steps 27 = .ok (.putfield 137, 3) := by decide +kernel
theorem dX7_steps_30 : decode cX7_steps 30 = .ok (.aload_n 0, 1) := by decide +kernel
theorem dX7_steps_31 : decode cX7_steps 31 = .ok (.iconst 0, 1) := by decide +kernel
theorem dX7_steps_32 : decode cX7_steps 32 = .ok (.putfield 134, 3) := by decide +kernel
theorem dX7_steps_35 : decode cX7_steps 35 = .ok (.iload_n 3, 1) := by decide +kernel
theorem dX7_steps_36 : decode cX7_steps 36 = .ok (.ifCond .eq 56, 3) := by decide +kernel
theorem dX7_steps_39 : decode cX7_steps 39 = .ok (.aload_n 0, 1) := by decide +kernel
theorem dX7_steps_40 : decode cX7_steps 40 = .ok (.getfield 7, 3) := by decide +kernel
theorem dX7_steps_43 : decode cX7_steps 43 = .ok (.iload_n 1, 1) := by decide +kernel
theorem dX7_steps_44 : decode cX7_steps 44 = .ok (.iconst 0, 1) := by decide +kernel
theorem dX7_steps_45 : decode cX7_steps 45 = .ok (.invokestatic 39, 3) := by decide +kernel
theorem dX7_steps_48 : decode cX7_steps 48 = .ok (.dup2, 1) := by decide +kernel
theorem dX7_steps_49 : decode cX7_steps 49 = .ok (.iaload, 1) := by decide +kernel
theorem dX7_steps_50 : decode cX7_steps 50 = .ok (.iconst 1, 1) := by decide +kernel
theorem dX7_steps_51 : decode cX7_steps 51 = .ok (.isub, 1) := by decide +kernel
theorem dX7_steps_52 : decode cX7_steps 52 = .ok (.iastore, 1) := by decide +kernel
theorem dX7_steps_53 : decode cX7_steps 53 = .ok (.aload_n 0, 1) := by decide +kernel
theorem dX7_steps_54 : decode cX7_steps 54 = .ok (.iload_n 1, 1) := by decide +kernel
theorem dX7_steps_55 : decode cX7_steps 55 = .ok (.invokevirtual 150, 3) := by decide +kernel
theorem dX7_steps_58 : decode cX7_steps 58 = .ok (.aload_n 0, 1) := by decide +kernel
theorem dX7_steps_59 : decode cX7_steps 59 = .ok (.iload_n 1, 1) := by decide +kernel
theorem dX7_steps_60 : decode cX7_steps 60 = .ok (.putfield 137, 3) := by decide +kernel
theorem dX7_steps_63 : decode cX7_steps 63 = .ok (.iload_n 2, 1) := by decide +kernel
theorem dX7_steps_64 : decode cX7_steps 64 = .ok (.ifCond .ne 11, 3) := by decide +kernel
theorem dX7_steps_67 : decode cX7_steps 67 = .ok (.aload_n 0, 1) := by decide +kernel
theorem dX7_steps_68 : decode cX7_steps 68 = .ok (.invokevirtual 154, 3) := by decide +kernel
theorem dX7_steps_71 : decode cX7_steps 71 = .ok (.istore_n 2, 1) := by decide +kernel
theorem dX7_steps_72 : decode cX7_steps 72 = .ok (.goto (-9), 3) := by decide +kernel
theorem dX7_steps_75 : decode cX7_steps 75 = .ok (.aload_n 0, 1) := by decide +kernel
theorem dX7_steps_76 : decode cX7_steps 76 = .ok (.getfield 7, 3) := by decide +kernel
theorem dX7_steps_79 : decode cX7_steps 79 = .ok (.aload_n 0, 1) := by decide +kernel
theorem dX7_steps_80 : decode cX7_steps 80 = .ok (.getfield 137, 3) := by decide +kernel
theorem dX7_steps_83 : decode cX7_steps 83 = .ok (.iconst 0, 1) := by decide +kernel
theorem dX7_steps_84 : decode cX7_steps 84 = .ok (.invokestatic 39, 3) := by decide +kernel
theorem dX7_steps_87 : decode cX7_steps 87 = .ok (.dup2, 1) := by decide +kernel
theorem dX7_steps_88 : decode cX7_steps 88 = .ok (.iaload, 1) := by decide +kernel
theorem dX7_steps_89 : decode cX7_steps 89 = .ok (.iconst 1, 1) := by decide +kernel
theorem dX7_steps_90 : decode cX7_steps 90 = .ok (.iadd, 1) := by decide +kernel
theorem dX7_steps_91 : decode cX7_steps 91 = .ok (.iastore, 1) := by decide +kernel
theorem dX7_steps_92 : decode cX7_steps 92 = .ok (.aload_n 0, 1) := by decide +kernel
theorem dX7_steps_93 : decode cX7_steps 93 = .ok (.getfield 7, 3) := by decide +kernel
theorem dX7_steps_96 : decode cX7_steps 96 = .ok (.bipush 9, 2) := by decide +kernel
theorem dX7_steps_98 : decode cX7_steps 98 = .ok (.dup2, 1) := by decide +kernel
theorem dX7_steps_99 : decode cX7_steps 99 = .ok (.iaload, 1) := by decide +kernel
theorem dX7_steps_100 : decode cX7_steps 100 = .ok (.iconst 1, 1) := by decide +kernel
theorem dX7_steps_101 : decode cX7_steps 101 = .ok (.iadd, 1) := by decide +kernel
theorem dX7_steps_102 : decode cX7_steps 102 = .ok (.iastore, 1) := by decide +kernel
theorem dX7_steps_103 : decode cX7_steps 103 = .ok (.aload_n 0, 1) := by decide +kernel
theorem dX7_steps_104 : decode cX7_steps 104 = .ok (.getfield 7, 3) := by decide +kernel
theorem dX7_steps_107 : decode cX7_steps 107 = .ok (.bipush 9, 2) := by decide +kernel
theorem dX7_steps_109 : decode cX7_steps 109 = .ok (.iload_n 2, 1) := by decide +kernel
theorem dX7_steps_110 : decode cX7_steps 110 = .ok (.iadd, 1) := by decide +kernel
theorem dX7_steps_111 : decode cX7_steps 111 = .ok (.dup2, 1) := by decide +kernel
theorem dX7_steps_112 : decode cX7_steps 112 = .ok (.iaload, 1) := by decide +kernel
theorem dX7_steps_113 : decode cX7_steps 113 = .ok (.iconst 1, 1) := by decide +kernel
theorem dX7_steps_114 : decode cX7_steps 114 = .ok (.iadd, 1) := by decide +kernel
theorem dX7_steps_115 : decode cX7_steps 115 = .ok (.iastore, 1) := by decide +kernel
theorem dX7_steps_116 : decode cX7_steps 116 = .ok (.aload_n 0, 1) := by decide +kernel
theorem dX7_steps_117 : decode cX7_steps 117 = .ok (.getfield 7, 3) := by decide +kernel
theorem dX7_steps_120 : decode cX7_steps 120 = .ok (.bipush 21, 2) := by decide +kernel
theorem dX7_steps_122 : decode cX7_steps 122 = .ok (.iload_n 2, 1) := by decide +kernel
theorem dX7_steps_123 : decode cX7_steps 123 = .ok (.iastore, 1) := by decide +kernel
theorem dX7_steps_124 : decode cX7_steps 124 = .ok (.aload_n 0, 1) := by decide +kernel
theorem dX7_steps_125 : decode cX7_steps 125 = .ok (.getfield 7, 3) := by decide +kernel
theorem dX7_steps_128 : decode cX7_steps 128 = .ok (.bipush 22, 2) := by decide +kernel
theorem dX7_steps_130 : decode cX7_steps 130 = .ok (.iload_n 1, 1) := by decide +kernel
theorem dX7_steps_131 : decode cX7_steps 131 = .ok (.iastore, 1) := by decide +kernel
theorem dX7_steps_132 : decode cX7_steps 132 = .ok (.aload_n 0, 1) := by decide +kernel
theorem dX7_steps_133 : decode cX7_steps 133 = .ok (.getfield 7, 3) := by decide +kernel
theorem dX7_steps_136 : decode cX7_steps 136 = .ok (.bipush 23, 2) := by decide +kernel
theorem dX7_steps_138 : decode cX7_steps 138 = .ok (.aload_n 0, 1) := by decide +kernel
theorem dX7_steps_139 : decode cX7_steps 139 = .ok (.getfield 137, 3) := by decide +kernel
theorem dX7_steps_142 : decode cX7_steps 142 = .ok (.iastore, 1) := by decide +kernel
theorem dX7_steps_143 : decode cX7_steps 143 = .ok (.aload_n 0, 1) := by decide +kernel
theorem dX7_steps_144 : decode cX7_steps 144 = .ok (.getfield 7, 3) := by decide +kernel
theorem dX7_steps_147 : decode cX7_steps 147 = .ok (.bipush 24, 2) := by decide +kernel
theorem dX7_steps_149 : decode cX7_steps 149 = .ok (.aload_n 0, 1) := by decide +kernel
theorem dX7_steps_150 : decode cX7_steps 150 = .ok (.getfield 134, 3) := by decide +kernel
theorem dX7_steps_153 : decode cX7_steps 153 = .ok (.iastore, 1) := by decide +kernel
theorem dX7_steps_154 : decode cX7_steps 154 = .ok (.iload_n 3, 1) := by decide +kernel
theorem dX7_steps_155 : decode cX7_steps 155 = .ok (.ifCond .eq 11, 3) := by decide +kernel
theorem dX7_steps_158 : decode cX7_steps 158 = .ok (.aload_n 0, 1) := by decide +kernel
theorem dX7_steps_159 : decode cX7_steps 159 = .ok (.aload_n 0, 1) := by decide +kernel
theorem dX7_steps_160 : decode cX7_steps 160 = .ok (.getfield 137, 3) := by decide +kernel
theorem dX7_steps_163 : decode cX7_steps 163 = .ok (.invokevirtual 157, 3) := by decide +kernel
theorem dX7_steps_166 : decode cX7_steps 166 = .ok (.iload_n 3, 1) := by decide +kernel
theorem dX7_steps_167 : decode cX7_steps 167 = .ok (.ireturn, 1) := by decide +kernel
set_option maxRecDepth 20000 in
theorem ggX7_runs_X7_steps : GoodIn wsX7_runs wsX7_steps := goodIn_r _ [5, 6, 7, 8, 9, 10, 11, 4, 12, 13, 14, 15, 16, 17, 18, 19, 20, 21, 22, 23, 24, 25, 26, 27, 28, 29, 30, 31, 32, 33, 34, 35, 36, 37, 38, 39, 40, 41, 42, 43, 44, 45, 46, 47, 48, 49, 50, 51, 52, 53, 54, 55, 56, 57, 58, 59, 60, 61, 62, 63, 64, 65, 66, 67, 68, 69, 70, 71, 72, 73, 74, 75, 76, 77, 78, 79, 80, 81, 82, 83, 84, 85, 86, 87, 88] (by decide +kernel) (by decide +kernel)
set_option maxRecDepth 20000 in
theorem gX7_runs_X7_steps : GoodIn wsX7_runs (wsV RX7 160 RX7 yX7_steps wsX7_steps) := goodIn_app (goodIn_of _ (by decide +kernel)) ggX7_runs_X7_steps
theorem dX7_runs_0 : decode cX7_runs 0 = .ok (.iconst 0, 1) := by decide +kernel
theorem dX7_runs_1 : decode cX7_runs 1 = .ok (.istore_n 2, 1) := by decide +kernel
theorem dX7_runs_2 : decode cX7_runs 2 = .ok (.iconst 0, 1) := by decide +kernel
theorem dX7_runs_3 : decode cX7_runs 3 = .ok (.istore_n 3, 1) := by decide +kernel
theorem dX7_runs_4 : decode cX7_runs 4 = .ok (.iload_n 3, 1) := by decide +kernel
theorem dX7_runs_5 : decode cX7_runs 5 = .ok (.iload_n 1, 1) := by decide +kernel
theorem dX7_runs_6 : decode cX7_runs 6 = .ok (.if_icmp .ge 24, 3) := by decide +kernel
theorem dX7_runs_9 : decode cX7_runs 9 = .ok (.iload_n 2, 1) := by decide +kernel
theorem dX7_runs_10 : decode cX7_runs 10 = .ok (.aload_n 0, 1) := by decide +kernel
theorem dX7_runs_11 : decode cX7_runs 11 = .ok (.invokevirtual 160, 3) := by decide +kernel
theorem dX7_runs_14 : decode cX7_runs 14 = .ok (.ifCond .eq 7, 3) := by decide +kernel
theorem dX7_runs_17 : decode cX7_runs 17 = .ok (.iconst 1, 1) := by decide +kernel
theorem dX7_runs_18 : decode cX7_runs 18 = .ok (.goto 4, 3) := by decide +kernel
theorem dX7_runs_21 : decode cX7_runs 21 = .ok (.iconst 0, 1) := by decide +kernel
theorem dX7_runs_22 : decode cX7_runs 22 = .ok (.iadd, 1) := by decide +kernel
theorem dX7_runs_23 : decode cX7_runs 23 = .ok (.istore_n 2, 1) := by decide +kernel
theorem dX7_runs_24 : decode cX7_runs 24 = .ok (.iinc 3 1, 3) := by decide +kernel
theorem dX7_runs_27 : decode cX7_runs 27 = .ok (.goto (-23), 3) := by decide +kernel
theorem dX7_runs_30 : decode cX7_runs 30 = .ok (.iload_n 2, 1) := by decide +kernel
theorem dX7_runs_31 : decode cX7_runs 31 = .ok (.ireturn, 1) := by decide +kernel
set_option maxRecDepth 20000 in
theorem ggX7_run_X7_in : GoodIn wsX7_run wsX7_in := goodIn_r _ [5] (by decide +kernel) (by decide +kernel)
set_option maxRecDepth 20000 in
theorem gX7_run_X7_in : GoodIn wsX7_run (va_wsS RX7 47 yX7_in wsX7_in) := goodIn_app (goodIn_of _ (by decide +kernel)) ggX7_run_X7_in
set_option maxRecDepth 20000 in
theorem ggX7_run_X7_goes : GoodIn wsX7_run wsX7_goes := goodIn_r _ [9, 10, 95, 96, 97, 98, 99, 100, 101, 102, 103, 104, 105, 106, 107] (by decide +kernel) (by decide +kernel)
