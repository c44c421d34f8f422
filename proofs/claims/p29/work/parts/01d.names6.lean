set_option maxRecDepth 20000 in
theorem ggX6_init_X1_init : GoodIn wsX6_init wsX1_init := goodIn_r _ [28, 29, 2, 3, 30, 31, 32, 33, 34, 35, 36, 37, 38, 39, 40, 41, 42, 43, 44, 45, 46, 47, 48, 49, 6, 50, 51, 52, 53, 54, 55, 56, 57, 58, 59, 60, 61, 62, 63, 64, 65, 66, 67, 132, 98, 99, 100, 101, 102, 103, 104, 105, 106, 107, 108, 109, 110] (by decide +kernel) (by decide +kernel)
set_option maxRecDepth 20000 in
theorem gX6_init_X1_init : GoodIn wsX6_init (wsX1_init) := ggX6_init_X1_init
set_option maxRecDepth 20000 in
theorem ggX6_init_X5_init : GoodIn wsX6_init wsX5_init := goodIn_r _ [70, 71, 2, 3, 72, 73, 118, 119, 98, 99, 100, 101, 102, 103, 104, 105, 106, 107, 108, 109, 110] (by decide +kernel) (by decide +kernel)
set_option maxRecDepth 20000 in
theorem gX6_init_X5_init : GoodIn wsX6_init (wsX5_init) := ggX6_init_X5_init
set_option maxRecDepth 20000 in
theorem ggX6_init_X0_init : GoodIn wsX6_init wsX0_init := goodIn_r _ [76, 77, 2, 3, 78, 31, 32, 79, 80, 81, 82, 83, 42, 43, 44, 45, 46, 132, 120, 121, 122, 123, 124] (by decide +kernel) (by decide +kernel)
set_option maxRecDepth 20000 in
theorem gX6_init_X0_init : GoodIn wsX6_init (wsX0_init) := ggX6_init_X0_init
set_option maxRecDepth 20000 in
theorem ggX6_init_X3_init : GoodIn wsX6_init wsX3_init := goodIn_r _ [86, 87, 2, 3, 88, 89, 5, 6, 90, 27, 28, 29, 30, 31, 32, 33, 34, 35, 36, 37, 38, 39, 40, 41, 42, 43, 44, 45, 46, 47, 48, 49, 50, 51, 52, 53, 54, 55, 56, 57, 58, 59, 60, 61, 62, 63, 64, 65, 66, 67, 125, 126, 127, 98, 99, 100, 101, 102, 103, 104, 105, 106, 107, 108, 109, 110, 132] (by decide +kernel) (by decide +kernel)
set_option maxRecDepth 20000 in
theorem gX6_init_X3_init : GoodIn wsX6_init (wsX3_init) := ggX6_init_X3_init
set_option maxRecDepth 20000 in
theorem ggX6_init_X2_init : GoodIn wsX6_init wsX2_init := goodIn_r _ [93, 94, 2, 3, 95, 31, 32, 96, 97, 42, 43, 44, 45, 46, 132, 128, 129, 130, 131] (by decide +kernel) (by decide +kernel)
set_option maxRecDepth 20000 in
theorem gX6_init_X2_init : GoodIn wsX6_init (wsX2_init) := ggX6_init_X2_init
theorem dX6_init_0 : decode cX6_init 0 = .ok (.aload_n 0, 1) := by decide +kernel
theorem dX6_init_1 : decode cX6_init 1 = .ok (.invokespecial 1, 3) := by decide +kernel
theorem dX6_init_4 : decode cX6_init 4 = .ok (.aload_n 0, 1) := by decide +kernel
theorem dX6_init_5 : decode cX6_init 5 = .ok (.new 7, 3) := by decide +kernel
theorem dX6_init_8 : decode cX6_init 8 = .ok (.dup, 1) := by decide +kernel
theorem dX6_init_9 : decode cX6_init 9 = .ok (.invokespecial 9, 3) := by decide +kernel
theorem dX6_init_12 : decode cX6_init 12 = .ok (.putfield 10, 3) := by decide +kernel
theorem dX6_init_15 : decode cX6_init 15 = .ok (.aload_n 0, 1) := by decide +kernel
theorem dX6_init_16 : decode cX6_init 16 = .ok (.new 16, 3) := by decide +kernel
theorem dX6_init_19 : decode cX6_init 19 = .ok (.dup, 1) := by decide +kernel
theorem dX6_init_20 : decode cX6_init 20 = .ok (.aload_n 0, 1) := by decide +kernel
theorem dX6_init_21 : decode cX6_init 21 = .ok (.getfield 10, 3) := by decide +kernel
theorem dX6_init_24 : decode cX6_init 24 = .ok (.invokespecial 18, 3) := by decide +kernel
theorem dX6_init_27 : decode cX6_init 27 = .ok (.putfield 21, 3) := by decide +kernel
theorem dX6_init_30 : decode cX6_init 30 = .ok (.aload_n 0, 1) := by decide +kernel
theorem dX6_init_31 : decode cX6_init 31 = .ok (.new 7, 3) := by decide +kernel
theorem dX6_init_34 : decode cX6_init 34 = .ok (.dup, 1) := by decide +kernel
theorem dX6_init_35 : decode cX6_init 35 = .ok (.invokespecial 9, 3) := by decide +kernel
theorem dX6_init_38 : decode cX6_init 38 = .ok (.putfield 25, 3) := by decide +kernel
theorem dX6_init_41 : decode cX6_init 41 = .ok (.aload_n 0, 1) := by decide +kernel
theorem dX6_init_42 : decode cX6_init 42 = .ok (.new 16, 3) := by decide +kernel
theorem dX6_init_45 : decode cX6_init 45 = .ok (.dup, 1) := by decide +kernel
theorem dX6_init_46 : decode cX6_init 46 = .ok (.aload_n 0, 1) := by decide +kernel
theorem dX6_init_47 : decode cX6_init 47 = .ok (.getfield 25, 3) := by decide +kernel
theorem dX6_init_50 : decode cX6_init 50 = .ok (.invokespecial 18, 3) := by decide +kernel
theorem dX6_init_53 : decode cX6_init 53 = .ok (.putfield 28, 3) := by decide +kernel
theorem dX6_init_56 : decode cX6_init 56 = .ok (.aload_n 0, 1) := by decide +kernel
theorem dX6_init_57 : decode cX6_init 57 = .ok (.new 31, 3) := by decide +kernel
theorem dX6_init_60 : decode cX6_init 60 = .ok (.dup, 1) := by decide +kernel
theorem dX6_init_61 : decode cX6_init 61 = .ok (.invokespecial 33, 3) := by decide +kernel
theorem dX6_init_64 : decode cX6_init 64 = .ok (.putfield 34, 3) := by decide +kernel
theorem dX6_init_67 : decode cX6_init 67 = .ok (.aload_n 0, 1) := by decide +kernel
theorem dX6_init_68 : decode cX6_init 68 = .ok (.new 38, 3) := by decide +kernel
theorem dX6_init_71 : decode cX6_init 71 = .ok (.dup, 1) := by decide +kernel
theorem dX6_init_72 : decode cX6_init 72 = .ok (.invokespecial 40, 3) := by decide +kernel
theorem dX6_init_75 : decode cX6_init 75 = .ok (.putfield 41, 3) := by decide +kernel
theorem dX6_init_78 : decode cX6_init 78 = .ok (.aload_n 0, 1) := by decide +kernel
theorem dX6_init_79 : decode cX6_init 79 = .ok (.new 45, 3) := by decide +kernel
theorem dX6_init_82 : decode cX6_init 82 = .ok (.dup, 1) := by decide +kernel
theorem dX6_init_83 : decode cX6_init 83 = .ok (.invokespecial 47, 3) := by decide +kernel
theorem dX6_init_86 : decode cX6_init 86 = .ok (.putfield 48, 3) := by decide +kernel
theorem dX6_init_89 : decode cX6_init 89 = .ok (.return_, 1) := by decide +kernel
set_option maxRecDepth 20000 in
theorem ggX6_begin_X6_within : GoodIn wsX6_begin wsX6_within := goodIn_r _ [8] (by decide +kernel) (by decide +kernel)
set_option maxRecDepth 20000 in
theorem gX6_begin_X6_within : GoodIn wsX6_begin (va_wsS RX6 52 yX6_within wsX6_within) := goodIn_app (goodIn_of _ (by decide +kernel)) ggX6_begin_X6_within
set_option maxRecDepth 20000 in
theorem ggX6_begin_X3_save : GoodIn wsX6_begin wsX3_save := goodIn_r _ [13, 14, 15, 16, 17, 18, 12, 19, 20, 21, 22, 23, 24, 25, 26, 27, 28, 29, 30, 31, 32, 33, 34, 35, 36, 37, 38, 39, 40, 41, 42, 43, 44, 45, 46, 47, 48, 76, 77, 78, 79, 80, 81, 82, 83, 84, 85, 86, 87, 88, 89, 90, 91, 92] (by decide +kernel) (by decide +kernel)
set_option maxRecDepth 20000 in
theorem gX6_begin_X3_save : GoodIn wsX6_begin (wsV RX6 65 RX3 yX3_save wsX3_save) := goodIn_app (goodIn_of _ (by decide +kernel)) ggX6_begin_X3_save
set_option maxRecDepth 20000 in
theorem ggX6_begin_X1_resetWeather : GoodIn wsX6_begin wsX1_resetWeather := goodIn_r _ [52, 31, 28, 29, 53, 54, 55, 42, 56, 44, 79, 80, 81, 82, 83, 84, 85, 86, 87, 88, 89, 90, 91, 92] (by decide +kernel) (by decide +kernel)
set_option maxRecDepth 20000 in
theorem gX6_begin_X1_resetWeather : GoodIn wsX6_begin (wsV RX6 68 RX1 yX1_resetWeather wsX1_resetWeather) := goodIn_app (goodIn_of _ (by decide +kernel)) ggX6_begin_X1_resetWeather
set_option maxRecDepth 20000 in
theorem ggX6_begin_X1_layOut : GoodIn wsX6_begin wsX1_layOut := goodIn_r _ [60, 26, 27, 30, 32, 33, 34, 35, 36, 37, 38, 61, 62, 63, 42, 64, 44, 79, 80, 81, 82, 83, 84, 85, 86, 87, 88, 89, 90, 91, 92] (by decide +kernel) (by decide +kernel)
set_option maxRecDepth 20000 in
theorem gX6_begin_X1_layOut : GoodIn wsX6_begin (wsV RX6 71 RX1 yX1_layOut wsX1_layOut) := goodIn_app (goodIn_of _ (by decide +kernel)) ggX6_begin_X1_layOut
set_option maxRecDepth 20000 in
theorem ggX6_begin_X1_cells : GoodIn wsX6_begin wsX1_cells := goodIn_r _ [68, 26, 27, 79, 80, 81, 82, 83, 84, 85, 86, 87, 88, 89, 90, 91] (by decide +kernel) (by decide +kernel)
set_option maxRecDepth 20000 in
theorem gX6_begin_X1_cells : GoodIn wsX6_begin (wsV RX6 75 RX1 yX1_cells wsX1_cells) := goodIn_app (goodIn_of _ (by decide +kernel)) ggX6_begin_X1_cells
theorem dX6_begin_0 : decode cX6_begin 0 = .ok (.iload_n 1, 1) := by decide +kernel
theorem dX6_begin_1 : decode cX6_begin 1 = .ok (.iconst 3, 1) := by decide +kernel
theorem dX6_begin_2 : decode cX6_begin 2 = .ok (.bipush 12, 2) := by decide +kernel
theorem dX6_begin_4 : decode cX6_begin 4 = .ok (.invokestatic 52, 3) := by decide +kernel
theorem dX6_begin_7 : decode cX6_begin 7 = .ok (.ifCond .eq 13, 3) := by decide +kernel
theorem dX6_begin_10 : decode cX6_begin 10 = .ok (.iload_n 2, 1) := by decide +kernel
theorem dX6_begin_11 : decode cX6_begin 11 = .ok (.iconst 3, 1) := by decide +kernel
theorem dX6_begin_12 : decode cX6_begin 12 = .ok (.bipush 16, 2) := by decide +kernel
theorem dX6_begin_14 : decode cX6_begin 14 = .ok (.invokestatic 52, 3) := by decide +kernel
theorem dX6_begin_17 : decode cX6_begin 17 = .ok (.ifCond .ne 13, 3) := by decide +kernel
theorem dX6_begin_20 : decode cX6_begin 20 = .ok (.new 56, 3) := by decide +kernel
theorem dX6_begin_23 : decode cX6_begin 23 = .ok (.dup, 1) := by decide +kernel
theorem dX6_begin_24 : decode cX6_begin 24 = .ok (.ldc 58, 2) := by decide +kernel
theorem dX6_begin_26 : decode cX6_begin 26 = .ok (.invokespecial 60, 3) := by decide +kernel
theorem dX6_begin_29 : decode cX6_begin 29 = .ok (.athrow, 1) := by decide +kernel
theorem dX6_begin_30 : decode cX6_begin 30 = .ok (.iload_n 3, 1) := by decide +kernel
theorem dX6_begin_31 : decode cX6_begin 31 = .ok (.iconst 0, 1) := by decide +kernel
theorem dX6_begin_32 : decode cX6_begin 32 = .ok (.bipush 20, 2) := by decide +kernel
theorem dX6_begin_34 : decode cX6_begin 34 = .ok (.invokestatic 52, 3) := by decide +kernel
theorem dX6_begin_37 : decode cX6_begin 37 = .ok (.ifCond .ne 13, 3) := by decide +kernel
theorem dX6_begin_40 : decode cX6_begin 40 = .ok (.new 56, 3) := by decide +kernel
theorem dX6_begin_43 : decode cX6_begin 43 = .ok (.dup, 1) := by decide +kernel
theorem dX6_begin_44 : decode cX6_begin 44 = .ok (.ldc 63, 2) := by decide +kernel
theorem dX6_begin_46 : decode cX6_begin 46 = .ok (.invokespecial 60, 3) := by decide +kernel
theorem dX6_begin_49 : decode cX6_begin 49 = .ok (.athrow, 1) := by decide +kernel
theorem dX6_begin_50 : decode cX6_begin 50 = .ok (.aload_n 0, 1) := by decide +kernel
theorem dX6_begin_51 : decode cX6_begin 51 = .ok (.getfield 41, 3) := by decide +kernel
theorem dX6_begin_54 : decode cX6_begin 54 = .ok (.aload_n 0, 1) := by decide +kernel
theorem dX6_begin_55 : decode cX6_begin 55 = .ok (.getfield 10, 3) := by decide +kernel
theorem dX6_begin_58 : decode cX6_begin 58 = .ok (.invokevirtual 65, 3) := by decide +kernel
theorem dX6_begin_61 : decode cX6_begin 61 = .ok (.aload_n 0, 1) := by decide +kernel
theorem dX6_begin_62 : decode cX6_begin 62 = .ok (.getfield 10, 3) := by decide +kernel
theorem dX6_begin_65 : decode cX6_begin 65 = .ok (.invokevirtual 68, 3) := by decide +kernel
theorem dX6_begin_68 : decode cX6_begin 68 = .ok (.aload_n 0, 1) := by decide +kernel
theorem dX6_begin_69 : decode cX6_begin 69 = .ok (.getfield 10, 3) := by decide +kernel
theorem dX6_begin_72 : decode cX6_begin 72 = .ok (.iload_n 1, 1) := by decide +kernel
theorem dX6_begin_73 : decode cX6_begin 73 = .ok (.iload_n 2, 1) := by decide +kernel
theorem dX6_begin_74 : decode cX6_begin 74 = .ok (.iload_n 3, 1) := by decide +kernel
theorem dX6_begin_75 : decode cX6_begin 75 = .ok (.invokevirtual 71, 3) := by decide +kernel
theorem dX6_begin_78 : decode cX6_begin 78 = .ok (.aload_n 0, 1) := by decide +kernel
theorem dX6_begin_79 : decode cX6_begin 79 = .ok (.getfield 10, 3) := by decide +kernel
theorem dX6_begin_82 : decode cX6_begin 82 = .ok (.invokevirtual 75, 3) := by decide +kernel
theorem dX6_begin_85 : decode cX6_begin 85 = .ok (.ireturn, 1) := by decide +kernel
set_option maxRecDepth 20000 in
theorem ggX6_setHeight_X1_cells : GoodIn wsX6_setHeight wsX1_cells := goodIn_r _ [11, 12, 13, 71, 72, 73, 74, 75, 76, 77, 78, 79, 80, 81, 82, 83] (by decide +kernel) (by decide +kernel)
set_option maxRecDepth 20000 in
theorem gX6_setHeight_X1_cells : GoodIn wsX6_setHeight (wsV RX6 75 RX1 yX1_cells wsX1_cells) := goodIn_app (goodIn_of _ (by decide +kernel)) ggX6_setHeight_X1_cells
set_option maxRecDepth 20000 in
theorem ggX6_setHeight_X6_within : GoodIn wsX6_setHeight wsX6_within := goodIn_r _ [17] (by decide +kernel) (by decide +kernel)
set_option maxRecDepth 20000 in
theorem gX6_setHeight_X6_within : GoodIn wsX6_setHeight (va_wsS RX6 52 yX6_within wsX6_within) := goodIn_app (goodIn_of _ (by decide +kernel)) ggX6_setHeight_X6_within
set_option maxRecDepth 20000 in
theorem ggX6_setHeight_X3_save : GoodIn wsX6_setHeight wsX3_save := goodIn_r _ [22, 23, 24, 25, 26, 27, 21, 28, 29, 30, 31, 32, 10, 33, 12, 13, 34, 35, 36, 37, 38, 39, 40, 41, 42, 43, 44, 45, 46, 47, 48, 49, 50, 51, 52, 53, 54, 84, 85, 86, 71, 72, 73, 74, 75, 76, 77, 78, 79, 80, 81, 82, 83, 87] (by decide +kernel) (by decide +kernel)
set_option maxRecDepth 20000 in
theorem gX6_setHeight_X3_save : GoodIn wsX6_setHeight (wsV RX6 65 RX3 yX3_save wsX3_save) := goodIn_app (goodIn_of _ (by decide +kernel)) ggX6_setHeight_X3_save
set_option maxRecDepth 20000 in
theorem ggX6_setHeight_X4_at : GoodIn wsX6_setHeight wsX4_at := goodIn_r _ [54, 50, 87] (by decide +kernel) (by decide +kernel)
set_option maxRecDepth 20000 in
theorem gX6_setHeight_X4_at : GoodIn wsX6_setHeight (wsV RX6 88 RX4 yX4_at wsX4_at) := goodIn_app (goodIn_of _ (by decide +kernel)) ggX6_setHeight_X4_at
set_option maxRecDepth 20000 in
theorem ggX6_setHeight_X1_giveHeight : GoodIn wsX6_setHeight wsX1_giveHeight := goodIn_r _ [59, 38, 39, 60, 61, 62, 48, 63, 50, 71, 72, 73, 74, 75, 76, 77, 78, 79, 80, 81, 82, 83, 87] (by decide +kernel) (by decide +kernel)
set_option maxRecDepth 20000 in
theorem gX6_setHeight_X1_giveHeight : GoodIn wsX6_setHeight (wsV RX6 94 RX1 yX1_giveHeight wsX1_giveHeight) := goodIn_app (goodIn_of _ (by decide +kernel)) ggX6_setHeight_X1_giveHeight
theorem dX6_setHeight_0 : decode cX6_setHeight 0 = .ok (.iload_n 1, 1) := by decide +kernel
theorem dX6_setHeight_1 : decode cX6_setHeight 1 = .ok (.iconst 0, 1) := by decide +kernel
theorem dX6_setHeight_2 : decode cX6_setHeight 2 = .ok (.aload_n 0, 1) := by decide +kernel
theorem dX6_setHeight_3 : decode cX6_setHeight 3 = .ok (.getfield 10, 3) := by decide +kernel
theorem dX6_setHeight_6 : decode cX6_setHeight 6 = .ok (.invokevirtual 75, 3) := by decide +kernel
theorem dX6_setHeight_9 : decode cX6_setHeight 9 = .ok (.iconst 1, 1) := by decide +kernel
theorem dX6_setHeight_10 : decode cX6_setHeight 10 = .ok (.isub, 1) := by decide +kernel
theorem dX6_setHeight_11 : decode cX6_setHeight 11 = .ok (.invokestatic 52, 3) := by decide +kernel
theorem dX6_setHeight_14 : decode cX6_setHeight 14 = .ok (.ifCond .ne 13, 3) := by decide +kernel
theorem dX6_setHeight_17 : decode cX6_setHeight 17 = .ok (.new 79, 3) := by decide +kernel
theorem dX6_setHeight_20 : decode cX6_setHeight 20 = .ok (.dup, 1) := by decide +kernel
theorem dX6_setHeight_21 : decode cX6_setHeight 21 = .ok (.ldc 81, 2) := by decide +kernel
theorem dX6_setHeight_23 : decode cX6_setHeight 23 = .ok (.invokespecial 83, 3) := by decide +kernel
theorem dX6_setHeight_26 : decode cX6_setHeight 26 = .ok (.athrow, 1) := by decide +kernel
theorem dX6_setHeight_27 : decode cX6_setHeight 27 = .ok (.iload_n 2, 1) := by decide +kernel
theorem dX6_setHeight_28 : decode cX6_setHeight 28 = .ok (.iconst 0, 1) := by decide +kernel
theorem dX6_setHeight_29 : decode cX6_setHeight 29 = .ok (.bipush 99, 2) := by decide +kernel
theorem dX6_setHeight_31 : decode cX6_setHeight 31 = .ok (.invokestatic 52, 3) := by decide +kernel
theorem dX6_setHeight_34 : decode cX6_setHeight 34 = .ok (.ifCond .ne 13, 3) := by decide +kernel
theorem dX6_setHeight_37 : decode cX6_setHeight 37 = .ok (.new 56, 3) := by decide +kernel
theorem dX6_setHeight_40 : decode cX6_setHeight 40 = .ok (.dup, 1) := by decide +kernel
theorem dX6_setHeight_41 : decode cX6_setHeight 41 = .ok (.ldc 63, 2) := by decide +kernel
theorem dX6_setHeight_43 : decode cX6_setHeight 43 = .ok (.invokespecial 60, 3) := by decide +kernel
theorem dX6_setHeight_46 : decode cX6_setHeight 46 = .ok (.athrow, 1) := by decide +kernel
theorem dX6_setHeight_47 : decode cX6_setHeight 47 = .ok (.aload_n 0, 1) := by decide +kernel
theorem dX6_setHeight_48 : decode cX6_setHeight 48 = .ok (.getfield 41, 3) := by decide +kernel
theorem dX6_setHeight_51 : decode cX6_setHeight 51 = .ok (.aload_n 0, 1) := by decide +kernel
theorem dX6_setHeight_52 : decode cX6_setHeight 52 = .ok (.getfield 10, 3) := by decide +kernel
theorem dX6_setHeight_55 : decode cX6_setHeight 55 = .ok (.invokevirtual 65, 3) := by decide +kernel
theorem dX6_setHeight_58 : decode cX6_setHeight 58 = .ok (.aload_n 0, 1) := by decide +kernel
theorem dX6_setHeight_59 : decode cX6_setHeight 59 = .ok (.getfield 10, 3) := by decide +kernel
theorem dX6_setHeight_62 : decode cX6_setHeight 62 = .ok (.getfield 84, 3) := by decide +kernel
theorem dX6_setHeight_65 : decode cX6_setHeight 65 = .ok (.iload_n 1, 1) := by decide +kernel
theorem dX6_setHeight_66 : decode cX6_setHeight 66 = .ok (.invokevirtual 88, 3) := by decide +kernel
theorem dX6_setHeight_69 : decode cX6_setHeight 69 = .ok (.istore_n 3, 1) := by decide +kernel
theorem dX6_setHeight_70 : decode cX6_setHeight 70 = .ok (.aload_n 0, 1) := by decide +kernel
theorem dX6_setHeight_71 : decode cX6_setHeight 71 = .ok (.getfield 10, 3) := by decide +kernel
theorem dX6_setHeight_74 : decode cX6_setHeight 74 = .ok (.iload_n 1, 1) := by decide +kernel
theorem dX6_setHeight_75 : decode cX6_setHeight 75 = .ok (.iload_n 2, 1) := by decide +kernel
theorem dX6_setHeight_76 : decode cX6_setHeight 76 = .ok (.invokevirtual 94, 3) := by decide +kernel
theorem dX6_setHeight_79 : decode cX6_setHeight 79 = .ok (.iload_n 3, 1) := by decide +kernel
theorem dX6_setHeight_80 : decode cX6_setHeight 80 = .ok (.ireturn, 1) := by decide +kernel
set_option maxRecDepth 20000 in
theorem ggX6_setTuft_X1_cells : GoodIn wsX6_setTuft wsX1_cells := goodIn_r _ [11, 12, 13, 67, 68, 69, 70, 71, 72, 73, 74, 75, 76, 77, 78, 79] (by decide +kernel) (by decide +kernel)
set_option maxRecDepth 20000 in
theorem gX6_setTuft_X1_cells : GoodIn wsX6_setTuft (wsV RX6 75 RX1 yX1_cells wsX1_cells) := goodIn_app (goodIn_of _ (by decide +kernel)) ggX6_setTuft_X1_cells
set_option maxRecDepth 20000 in
theorem ggX6_setTuft_X6_within : GoodIn wsX6_setTuft wsX6_within := goodIn_r _ [17] (by decide +kernel) (by decide +kernel)
set_option maxRecDepth 20000 in
theorem gX6_setTuft_X6_within : GoodIn wsX6_setTuft (va_wsS RX6 52 yX6_within wsX6_within) := goodIn_app (goodIn_of _ (by decide +kernel)) ggX6_setTuft_X6_within
set_option maxRecDepth 20000 in
theorem ggX6_setTuft_X3_save : GoodIn wsX6_setTuft wsX3_save := goodIn_r _ [22, 23, 24, 25, 26, 27, 21, 28, 29, 30, 31, 32, 10, 33, 12, 13, 34, 35, 36, 37, 38, 39, 40, 41, 42, 43, 44, 45, 46, 47, 48, 49, 50, 51, 52, 53, 54, 80, 81, 82, 67, 68, 69, 70, 71, 72, 73, 74, 75, 76, 77, 78, 79, 83] (by decide +kernel) (by decide +kernel)
set_option maxRecDepth 20000 in
theorem gX6_setTuft_X3_save : GoodIn wsX6_setTuft (wsV RX6 65 RX3 yX3_save wsX3_save) := goodIn_app (goodIn_of _ (by decide +kernel)) ggX6_setTuft_X3_save
set_option maxRecDepth 20000 in
theorem ggX6_setTuft_X4_at : GoodIn wsX6_setTuft wsX4_at := goodIn_r _ [54, 50, 83] (by decide +kernel) (by decide +kernel)
set_option maxRecDepth 20000 in
theorem gX6_setTuft_X4_at : GoodIn wsX6_setTuft (wsV RX6 88 RX4 yX4_at wsX4_at) := goodIn_app (goodIn_of _ (by decide +kernel)) ggX6_setTuft_X4_at
set_option maxRecDepth 20000 in
theorem ggX6_setTuft_X4_put : GoodIn wsX6_setTuft wsX4_put := goodIn_r _ [59, 50, 83] (by decide +kernel) (by decide +kernel)
set_option maxRecDepth 20000 in
theorem gX6_setTuft_X4_put : GoodIn wsX6_setTuft (wsV RX6 103 RX4 yX4_put wsX4_put) := goodIn_app (goodIn_of _ (by decide +kernel)) ggX6_setTuft_X4_put
theorem dX6_setTuft_0 : decode cX6_setTuft 0 = .ok (.iload_n 1, 1) := by decide +kernel
theorem dX6_setTuft_1 : decode cX6_setTuft 1 = .ok (.iconst 0, 1) := by decide +kernel
theorem dX6_setTuft_2 : decode cX6_setTuft 2 = .ok (.aload_n 0, 1) := by decide +kernel
theorem dX6_setTuft_3 : decode cX6_setTuft 3 = .ok (.getfield 10, 3) := by decide +kernel
theorem dX6_setTuft_6 : decode cX6_setTuft 6 = .ok (.invokevirtual 75, 3) := by decide +kernel
theorem dX6_setTuft_9 : decode cX6_setTuft 9 = .ok (.iconst 1, 1) := by decide +kernel
theorem dX6_setTuft_10 : decode cX6_setTuft 10 = .ok (.isub, 1) := by decide +kernel
theorem dX6_setTuft_11 : decode cX6_setTuft 11 = .ok (.invokestatic 52, 3) := by decide +kernel
theorem dX6_setTuft_14 : decode cX6_setTuft 14 = .ok (.ifCond .ne 13, 3) := by decide +kernel
theorem dX6_setTuft_17 : decode cX6_setTuft 17 = .ok (.new 79, 3) := by decide +kernel
theorem dX6_setTuft_20 : decode cX6_setTuft 20 = .ok (.dup, 1) := by decide +kernel
theorem dX6_setTuft_21 : decode cX6_setTuft 21 = .ok (.ldc 81, 2) := by decide +kernel
theorem dX6_setTuft_23 : decode cX6_setTuft 23 = .ok (.invokespecial 83, 3) := by decide +kernel
theorem dX6_setTuft_26 : decode cX6_setTuft 26 = .ok (.athrow, 1) := by decide +kernel
theorem dX6_setTuft_27 : decode cX6_setTuft 27 = .ok (.iload_n 2, 1) := by decide +kernel
theorem dX6_setTuft_28 : decode cX6_setTuft 28 = .ok (.iconst 0, 1) := by decide +kernel
theorem dX6_setTuft_29 : decode cX6_setTuft 29 = .ok (.bipush 100, 2) := by decide +kernel
theorem dX6_setTuft_31 : decode cX6_setTuft 31 = .ok (.invokestatic 52, 3) := by decide +kernel
theorem dX6_setTuft_34 : decode cX6_setTuft 34 = .ok (.ifCond .ne 13, 3) := by decide +kernel
theorem dX6_setTuft_37 : decode cX6_setTuft 37 = .ok (.new 56, 3) := by decide +kernel
theorem dX6_setTuft_40 : decode cX6_setTuft 40 = .ok (.dup, 1) := by decide +kernel
theorem dX6_setTuft_41 : decode cX6_setTuft 41 = .ok (.ldc 98, 2) := by decide +kernel
theorem dX6_setTuft_43 : decode cX6_setTuft 43 = .ok (.invokespecial 60, 3) := by decide +kernel
theorem dX6_setTuft_46 : decode cX6_setTuft 46 = .ok (.athrow, 1) := by decide +kernel
theorem dX6_setTuft_47 : decode cX6_setTuft 47 = .ok (.aload_n 0, 1) := by decide +kernel
theorem dX6_setTuft_48 : decode cX6_setTuft 48 = .ok (.getfield 41, 3) := by decide +kernel
theorem dX6_setTuft_51 : decode cX6_setTuft 51 = .ok (.aload_n 0, 1) := by decide +kernel
theorem dX6_setTuft_52 : decode cX6_setTuft 52 = .ok (.getfield 10, 3) := by decide +kernel
theorem dX6_setTuft_55 : decode cX6_setTuft 55 = .ok (.invokevirtual 65, 3) := by decide +kernel
theorem dX6_setTuft_58 : decode cX6_setTuft 58 = .ok (.aload_n 0, 1) := by decide +kernel
theorem dX6_setTuft_59 : decode cX6_setTuft 59 = .ok (.getfield 10, 3) := by decide +kernel
theorem dX6_setTuft_62 : decode cX6_setTuft 62 = .ok (.getfield 100, 3) := by decide +kernel
theorem dX6_setTuft_65 : decode cX6_setTuft 65 = .ok (.iload_n 1, 1) := by decide +kernel
theorem dX6_setTuft_66 : decode cX6_setTuft 66 = .ok (.invokevirtual 88, 3) := by decide +kernel
theorem dX6_setTuft_69 : decode cX6_setTuft 69 = .ok (.istore_n 3, 1) := by decide +kernel
theorem dX6_setTuft_70 : decode cX6_setTuft 70 = .ok (.aload_n 0, 1) := by decide +kernel
theorem dX6_setTuft_71 : decode cX6_setTuft 71 = .ok (.getfield 10, 3) := by decide +kernel
theorem dX6_setTuft_74 : decode cX6_setTuft 74 = .ok (.getfield 100, 3) := by decide +kernel
theorem dX6_setTuft_77 : decode cX6_setTuft 77 = .ok (.iload_n 1, 1) := by decide +kernel
theorem dX6_setTuft_78 : decode cX6_setTuft 78 = .ok (.iload_n 2, 1) := by decide +kernel
theorem dX6_setTuft_79 : decode cX6_setTuft 79 = .ok (.invokevirtual 103, 3) := by decide +kernel
theorem dX6_setTuft_82 : decode cX6_setTuft 82 = .ok (.iload_n 3, 1) := by decide +kernel
theorem dX6_setTuft_83 : decode cX6_setTuft 83 = .ok (.ireturn, 1) := by decide +kernel
set_option maxRecDepth 20000 in
theorem ggX6_setFence_X1_cells : GoodIn wsX6_setFence wsX1_cells := goodIn_r _ [11, 12, 13, 79, 80, 81, 82, 83, 84, 85, 86, 87, 88, 89, 90, 91] (by decide +kernel) (by decide +kernel)
set_option maxRecDepth 20000 in
theorem gX6_setFence_X1_cells : GoodIn wsX6_setFence (wsV RX6 75 RX1 yX1_cells wsX1_cells) := goodIn_app (goodIn_of _ (by decide +kernel)) ggX6_setFence_X1_cells
set_option maxRecDepth 20000 in
theorem ggX6_setFence_X6_within : GoodIn wsX6_setFence wsX6_within := goodIn_r _ [17] (by decide +kernel) (by decide +kernel)
set_option maxRecDepth 20000 in
theorem gX6_setFence_X6_within : GoodIn wsX6_setFence (va_wsS RX6 52 yX6_within wsX6_within) := goodIn_app (goodIn_of _ (by decide +kernel)) ggX6_setFence_X6_within
set_option maxRecDepth 20000 in
theorem ggX6_setFence_X3_save : GoodIn wsX6_setFence wsX3_save := goodIn_r _ [22, 23, 24, 25, 26, 27, 21, 28, 29, 30, 31, 32, 10, 33, 12, 13, 34, 35, 36, 37, 38, 39, 40, 41, 42, 43, 44, 45, 46, 47, 48, 49, 50, 51, 52, 53, 54, 92, 93, 94, 79, 80, 81, 82, 83, 84, 85, 86, 87, 88, 89, 90, 91, 95] (by decide +kernel) (by decide +kernel)
set_option maxRecDepth 20000 in
theorem gX6_setFence_X3_save : GoodIn wsX6_setFence (wsV RX6 65 RX3 yX3_save wsX3_save) := goodIn_app (goodIn_of _ (by decide +kernel)) ggX6_setFence_X3_save
set_option maxRecDepth 20000 in
theorem ggX6_setFence_X1_trappedBy : GoodIn wsX6_setFence wsX1_trappedBy := goodIn_r _ [58, 42, 59, 60, 61, 10, 62, 41, 63, 52, 53, 48, 54, 50, 79, 80, 81, 82, 83, 84, 85, 86, 87, 88, 89, 90, 91, 95] (by decide +kernel) (by decide +kernel)
set_option maxRecDepth 20000 in
theorem gX6_setFence_X1_trappedBy : GoodIn wsX6_setFence (wsV RX6 108 RX1 yX1_trappedBy wsX1_trappedBy) := goodIn_app (goodIn_of _ (by decide +kernel)) ggX6_setFence_X1_trappedBy
set_option maxRecDepth 20000 in
theorem ggX6_setFence_X1_putFence : GoodIn wsX6_setFence wsX1_putFence := goodIn_r _ [67, 41, 42, 68, 69, 70, 48, 71, 50, 79, 80, 81, 82, 83, 84, 85, 86, 87, 88, 89, 90, 91, 95] (by decide +kernel) (by decide +kernel)
set_option maxRecDepth 20000 in
theorem gX6_setFence_X1_putFence : GoodIn wsX6_setFence (wsV RX6 111 RX1 yX1_putFence wsX1_putFence) := goodIn_app (goodIn_of _ (by decide +kernel)) ggX6_setFence_X1_putFence
theorem dX6_setFence_0 : decode cX6_setFence 0 = .ok (.iload_n 1, 1) := by decide +kernel
theorem dX6_setFence_1 : decode cX6_setFence 1 = .ok (.iconst 0, 1) := by decide +kernel
theorem dX6_setFence_2 : decode cX6_setFence 2 = .ok (.aload_n 0, 1) := by decide +kernel
theorem dX6_setFence_3 : decode cX6_setFence 3 = .ok (.getfield 10, 3) := by decide +kernel
theorem dX6_setFence_6 : decode cX6_setFence 6 = .ok (.invokevirtual 75, 3) := by decide +kernel
theorem dX6_setFence_9 : decode cX6_setFence 9 = .ok (.iconst 1, 1) := by decide +kernel
theorem dX6_setFence_10 : decode cX6_setFence 10 = .ok (.isub, 1) := by decide +kernel
theorem dX6_setFence_11 : decode cX6_setFence 11 = .ok (.invokestatic 52, 3) := by decide +kernel
theorem dX6_setFence_14 : decode cX6_setFence 14 = .ok (.ifCond .ne 13, 3) := by decide +kernel
theorem dX6_setFence_17 : decode cX6_setFence 17 = .ok (.new 79, 3) := by decide +kernel
theorem dX6_setFence_20 : decode cX6_setFence 20 = .ok (.dup, 1) := by decide +kernel
theorem dX6_setFence_21 : decode cX6_setFence 21 = .ok (.ldc 81, 2) := by decide +kernel
theorem dX6_setFence_23 : decode cX6_setFence 23 = .ok (.invokespecial 83, 3) := by decide +kernel
theorem dX6_setFence_26 : decode cX6_setFence 26 = .ok (.athrow, 1) := by decide +kernel
theorem dX6_setFence_27 : decode cX6_setFence 27 = .ok (.iload_n 2, 1) := by decide +kernel
theorem dX6_setFence_28 : decode cX6_setFence 28 = .ok (.iconst (-1), 1) := by decide +kernel
theorem dX6_setFence_29 : decode cX6_setFence 29 = .ok (.if_icmp .eq 23, 3) := by decide +kernel
theorem dX6_setFence_32 : decode cX6_setFence 32 = .ok (.iload_n 2, 1) := by decide +kernel
theorem dX6_setFence_33 : decode cX6_setFence 33 = .ok (.iconst 1, 1) := by decide +kernel
theorem dX6_setFence_34 : decode cX6_setFence 34 = .ok (.bipush 50, 2) := by decide +kernel
theorem dX6_setFence_36 : decode cX6_setFence 36 = .ok (.invokestatic 52, 3) := by decide +kernel
theorem dX6_setFence_39 : decode cX6_setFence 39 = .ok (.ifCond .ne 13, 3) := by decide +kernel
theorem dX6_setFence_42 : decode cX6_setFence 42 = .ok (.new 56, 3) := by decide +kernel
theorem dX6_setFence_45 : decode cX6_setFence 45 = .ok (.dup, 1) := by decide +kernel
theorem dX6_setFence_46 : decode cX6_setFence 46 = .ok (.ldc 106, 2) := by decide +kernel
theorem dX6_setFence_48 : decode cX6_setFence 48 = .ok (.invokespecial 60, 3) := by decide +kernel
theorem dX6_setFence_51 : decode cX6_setFence 51 = .ok (.athrow, 1) := by decide +kernel
theorem dX6_setFence_52 : decode cX6_setFence 52 = .ok (.aload_n 0, 1) := by decide +kernel
theorem dX6_setFence_53 : decode cX6_setFence 53 = .ok (.getfield 41, 3) := by decide +kernel
theorem dX6_setFence_56 : decode cX6_setFence 56 = .ok (.aload_n 0, 1) := by decide +kernel
theorem dX6_setFence_57 : decode cX6_setFence 57 = .ok (.getfield 10, 3) := by decide +kernel
theorem dX6_setFence_60 : decode cX6_setFence 60 = .ok (.invokevirtual 65, 3) := by decide +kernel
theorem dX6_setFence_63 : decode cX6_setFence 63 = .ok (.aload_n 0, 1) := by decide +kernel
theorem dX6_setFence_64 : decode cX6_setFence 64 = .ok (.getfield 10, 3) := by decide +kernel
theorem dX6_setFence_67 : decode cX6_setFence 67 = .ok (.iload_n 1, 1) := by decide +kernel
theorem dX6_setFence_68 : decode cX6_setFence 68 = .ok (.invokevirtual 108, 3) := by decide +kernel
theorem dX6_setFence_71 : decode cX6_setFence 71 = .ok (.istore_n 3, 1) := by decide +kernel
theorem dX6_setFence_72 : decode cX6_setFence 72 = .ok (.aload_n 0, 1) := by decide +kernel
theorem dX6_setFence_73 : decode cX6_setFence 73 = .ok (.getfield 10, 3) := by decide +kernel
theorem dX6_setFence_76 : decode cX6_setFence 76 = .ok (.iload_n 1, 1) := by decide +kernel
theorem dX6_setFence_77 : decode cX6_setFence 77 = .ok (.iload_n 2, 1) := by decide +kernel
theorem dX6_setFence_78 : decode cX6_setFence 78 = .ok (.invokevirtual 111, 3) := by decide +kernel
theorem dX6_setFence_81 : decode cX6_setFence 81 = .ok (.iload_n 3, 1) := by decide +kernel
theorem dX6_setFence_82 : decode cX6_setFence 82 = .ok (.ireturn, 1) := by decide +kernel
set_option maxRecDepth 20000 in
theorem ggX6_set_X6_isSetting : GoodIn wsX6_set wsX6_isSetting := goodIn_r _ [8, 9, 10, 7, 11] (by decide +kernel) (by decide +kernel)
set_option maxRecDepth 20000 in
theorem gX6_set_X6_isSetting : GoodIn wsX6_set (va_wsS RX6 114 yX6_isSetting wsX6_isSetting) := goodIn_app (goodIn_of _ (by decide +kernel)) ggX6_set_X6_isSetting
set_option maxRecDepth 20000 in
theorem ggX6_set_X3_save : GoodIn wsX6_set wsX3_save := goodIn_r _ [16, 17, 18, 19, 20, 21, 15, 22, 23, 24, 25, 26, 27, 28, 29, 30, 31, 32, 33, 34, 35, 36, 37, 38, 39, 40, 41, 42, 43, 44, 45, 46, 47, 48, 49, 50, 51, 77, 78, 79, 64, 65, 66, 67, 68, 69, 70, 71, 72, 73, 74, 75, 76, 80] (by decide +kernel) (by decide +kernel)
set_option maxRecDepth 20000 in
theorem gX6_set_X3_save : GoodIn wsX6_set (wsV RX6 65 RX3 yX3_save wsX3_save) := goodIn_app (goodIn_of _ (by decide +kernel)) ggX6_set_X3_save
set_option maxRecDepth 20000 in
theorem ggX6_set_X4_at : GoodIn wsX6_set wsX4_at := goodIn_r _ [51, 47, 80] (by decide +kernel) (by decide +kernel)
set_option maxRecDepth 20000 in
theorem gX6_set_X4_at : GoodIn wsX6_set (wsV RX6 88 RX4 yX4_at wsX4_at) := goodIn_app (goodIn_of _ (by decide +kernel)) ggX6_set_X4_at
set_option maxRecDepth 20000 in
theorem ggX6_set_X4_put : GoodIn wsX6_set wsX4_put := goodIn_r _ [56, 47, 80] (by decide +kernel) (by decide +kernel)
set_option maxRecDepth 20000 in
theorem gX6_set_X4_put : GoodIn wsX6_set (wsV RX6 103 RX4 yX4_put wsX4_put) := goodIn_app (goodIn_of _ (by decide +kernel)) ggX6_set_X4_put
theorem dX6_set_0 : decode cX6_set 0 = .ok (.iload_n 1, 1) := by decide +kernel
theorem dX6_set_1 : decode cX6_set 1 = .ok (.iload_n 2, 1) := by decide +kernel
theorem dX6_set_2 : decode cX6_set 2 = .ok (.invokestatic 114, 3) := by decide +kernel
theorem dX6_set_5 : decode cX6_set 5 = .ok (.ifCond .ne 13, 3) := by decide +kernel
theorem dX6_set_8 : decode cX6_set 8 = .ok (.new 56, 3) := by decide +kernel
theorem dX6_set_11 : decode cX6_set 11 = .ok (.dup, 1) := by decide +kernel
theorem dX6_set_12 : decode cX6_set 12 = .ok (.ldc 118, 2) := by decide +kernel
theorem dX6_set_14 : decode cX6_set 14 = .ok (.invokespecial 60, 3) := by decide +kernel
theorem dX6_set_17 : decode cX6_set 17 = .ok (.athrow, 1) := by decide +kernel
theorem dX6_set_18 : decode cX6_set 18 = .ok (.aload_n 0, 1) := by decide +kernel
theorem dX6_set_19 : decode cX6_set 19 = .ok (.getfield 41, 3) := by decide +kernel
theorem dX6_set_22 : decode cX6_set 22 = .ok (.aload_n 0, 1) := by decide +kernel
theorem dX6_set_23 : decode cX6_set 23 = .ok (.getfield 10, 3) := by decide +kernel
theorem dX6_set_26 : decode cX6_set 26 = .ok (.invokevirtual 65, 3) := by decide +kernel
theorem dX6_set_29 : decode cX6_set 29 = .ok (.aload_n 0, 1) := by decide +kernel
theorem dX6_set_30 : decode cX6_set 30 = .ok (.getfield 10, 3) := by decide +kernel
theorem dX6_set_33 : decode cX6_set 33 = .ok (.getfield 120, 3) := by decide +kernel
theorem dX6_set_36 : decode cX6_set 36 = .ok (.iload_n 1, 1) := by decide +kernel
theorem dX6_set_37 : decode cX6_set 37 = .ok (.invokevirtual 88, 3) := by decide +kernel
theorem dX6_set_40 : decode cX6_set 40 = .ok (.istore_n 3, 1) := by decide +kernel
theorem dX6_set_41 : decode cX6_set 41 = .ok (.aload_n 0, 1) := by decide +kernel
theorem dX6_set_42 : decode cX6_set 42 = .ok (.getfield 10, 3) := by decide +kernel
theorem dX6_set_45 : decode cX6_set 45 = .ok (.getfield 120, 3) := by decide +kernel
theorem dX6_set_48 : decode cX6_set 48 = .ok (.iload_n 1, 1) := by decide +kernel
theorem dX6_set_49 : decode cX6_set 49 = .ok (.iload_n 2, 1) := by decide +kernel
theorem dX6_set_50 : decode cX6_set 50 = .ok (.invokevirtual 103, 3) := by decide +kernel
theorem dX6_set_53 : decode cX6_set 53 = .ok (.iload_n 3, 1) := by decide +kernel
theorem dX6_set_54 : decode cX6_set 54 = .ok (.ireturn, 1) := by decide +kernel
set_option maxRecDepth 20000 in
theorem ggX6_setWind_X6_within : GoodIn wsX6_setWind wsX6_within := goodIn_r _ [9] (by decide +kernel) (by decide +kernel)
set_option maxRecDepth 20000 in
theorem gX6_setWind_X6_within : GoodIn wsX6_setWind (va_wsS RX6 52 yX6_within wsX6_within) := goodIn_app (goodIn_of _ (by decide +kernel)) ggX6_setWind_X6_within
set_option maxRecDepth 20000 in
theorem ggX6_setWind_X3_save : GoodIn wsX6_setWind wsX3_save := goodIn_r _ [14, 15, 16, 17, 18, 19, 13, 20, 21, 22, 23, 24, 25, 26, 27, 28, 29, 30, 31, 32, 33, 34, 35, 36, 37, 38, 39, 40, 41, 42, 43, 44, 45, 46, 47, 48, 49, 70, 71, 72, 57, 58, 59, 60, 61, 62, 63, 64, 65, 66, 67, 68, 69, 73] (by decide +kernel) (by decide +kernel)
set_option maxRecDepth 20000 in
theorem gX6_setWind_X3_save : GoodIn wsX6_setWind (wsV RX6 65 RX3 yX3_save wsX3_save) := goodIn_app (goodIn_of _ (by decide +kernel)) ggX6_setWind_X3_save
theorem dX6_setWind_0 : decode cX6_setWind 0 = .ok (.iload_n 1, 1) := by decide +kernel
theorem dX6_setWind_1 : decode cX6_setWind 1 = .ok (.iconst 0, 1) := by decide +kernel
theorem dX6_setWind_2 : decode cX6_setWind 2 = .ok (.iconst 3, 1) := by decide +kernel
theorem dX6_setWind_3 : decode cX6_setWind 3 = .ok (.invokestatic 52, 3) := by decide +kernel
theorem dX6_setWind_6 : decode cX6_setWind 6 = .ok (.ifCond .ne 13, 3) := by decide +kernel
theorem dX6_setWind_9 : decode cX6_setWind 9 = .ok (.new 56, 3) := by decide +kernel
theorem dX6_setWind_12 : decode cX6_setWind 12 = .ok (.dup, 1) := by decide +kernel
theorem dX6_setWind_13 : decode cX6_setWind 13 = .ok (.ldc 123, 2) := by decide +kernel
theorem dX6_setWind_15 : decode cX6_setWind 15 = .ok (.invokespecial 60, 3) := by decide +kernel
theorem dX6_setWind_18 : decode cX6_setWind 18 = .ok (.athrow, 1) := by decide +kernel
theorem dX6_setWind_19 : decode cX6_setWind 19 = .ok (.iload_n 2, 1) := by decide +kernel
theorem dX6_setWind_20 : decode cX6_setWind 20 = .ok (.iconst (-1), 1) := by decide +kernel
theorem dX6_setWind_21 : decode cX6_setWind 21 = .ok (.if_icmp .eq 23, 3) := by decide +kernel
theorem dX6_setWind_24 : decode cX6_setWind 24 = .ok (.iload_n 2, 1) := by decide +kernel
theorem dX6_setWind_25 : decode cX6_setWind 25 = .ok (.iconst 0, 1) := by decide +kernel
theorem dX6_setWind_26 : decode cX6_setWind 26 = .ok (.ldc 125, 2) := by decide +kernel
theorem dX6_setWind_28 : decode cX6_setWind 28 = .ok (.invokestatic 52, 3) := by decide +kernel
theorem dX6_setWind_31 : decode cX6_setWind 31 = .ok (.ifCond .ne 13, 3) := by decide +kernel
theorem dX6_setWind_34 : decode cX6_setWind 34 = .ok (.new 56, 3) := by decide +kernel
theorem dX6_setWind_37 : decode cX6_setWind 37 = .ok (.dup, 1) := by decide +kernel
theorem dX6_setWind_38 : decode cX6_setWind 38 = .ok (.ldc 126, 2) := by decide +kernel
theorem dX6_setWind_40 : decode cX6_setWind 40 = .ok (.invokespecial 60, 3) := by decide +kernel
theorem dX6_setWind_43 : decode cX6_setWind 43 = .ok (.athrow, 1) := by decide +kernel
theorem dX6_setWind_44 : decode cX6_setWind 44 = .ok (.aload_n 0, 1) := by decide +kernel
theorem dX6_setWind_45 : decode cX6_setWind 45 = .ok (.getfield 41, 3) := by decide +kernel
theorem dX6_setWind_48 : decode cX6_setWind 48 = .ok (.aload_n 0, 1) := by decide +kernel
theorem dX6_setWind_49 : decode cX6_setWind 49 = .ok (.getfield 10, 3) := by decide +kernel
theorem dX6_setWind_52 : decode cX6_setWind 52 = .ok (.invokevirtual 65, 3) := by decide +kernel
theorem dX6_setWind_55 : decode cX6_setWind 55 = .ok (.aload_n 0, 1) := by decide +kernel
theorem dX6_setWind_56 : decode cX6_setWind 56 = .ok (.getfield 10, 3) := by decide +kernel
theorem dX6_setWind_59 : decode cX6_setWind 59 = .ok (.getfield 128, 3) := by decide +kernel
theorem dX6_setWind_62 : decode cX6_setWind 62 = .ok (.istore_n 3, 1) := by decide +kernel
theorem dX6_setWind_63 : decode cX6_setWind 63 = .ok (.aload_n 0, 1) := by decide +kernel
theorem dX6_setWind_64 : decode cX6_setWind 64 = .ok (.getfield 10, 3) := by decide +kernel
theorem dX6_setWind_67 : decode cX6_setWind 67 = .ok (.iload_n 1, 1) := by decide +kernel
theorem dX6_setWind_68 : decode cX6_setWind 68 = .ok (.putfield 128, 3) := by decide +kernel
theorem dX6_setWind_71 : decode cX6_setWind 71 = .ok (.iload_n 2, 1) := by decide +kernel
theorem dX6_setWind_72 : decode cX6_setWind 72 = .ok (.iconst (-1), 1) := by decide +kernel
theorem dX6_setWind_73 : decode cX6_setWind 73 = .ok (.if_icmp .eq 11, 3) := by decide +kernel
theorem dX6_setWind_76 : decode cX6_setWind 76 = .ok (.aload_n 0, 1) := by decide +kernel
theorem dX6_setWind_77 : decode cX6_setWind 77 = .ok (.getfield 10, 3) := by decide +kernel
theorem dX6_setWind_80 : decode cX6_setWind 80 = .ok (.iload_n 2, 1) := by decide +kernel
theorem dX6_setWind_81 : decode cX6_setWind 81 = .ok (.putfield 132, 3) := by decide +kernel
theorem dX6_setWind_84 : decode cX6_setWind 84 = .ok (.iload_n 3, 1) := by decide +kernel
theorem dX6_setWind_85 : decode cX6_setWind 85 = .ok (.ireturn, 1) := by decide +kernel
set_option maxRecDepth 20000 in
theorem ggX6_run_X6_within : GoodIn wsX6_run wsX6_within := goodIn_r _ [9] (by decide +kernel) (by decide +kernel)
set_option maxRecDepth 20000 in
theorem gX6_run_X6_within : GoodIn wsX6_run (va_wsS RX6 52 yX6_within wsX6_within) := goodIn_app (goodIn_of _ (by decide +kernel)) ggX6_run_X6_within
set_option maxRecDepth 20000 in
theorem ggX6_run_X3_save : GoodIn wsX6_run wsX3_save := goodIn_r _ [14, 15, 16, 17, 18, 19, 13, 20, 21, 22, 23, 24, 25, 26, 27, 28, 29, 30, 31, 32, 33, 34, 35, 36, 37, 38, 39, 40, 41, 42, 43, 44, 45, 46, 47, 48, 49, 156, 157, 158, 159, 160, 161, 162, 163, 164, 165, 166, 167, 168, 169, 170, 171, 172] (by decide +kernel) (by decide +kernel)
set_option maxRecDepth 20000 in
theorem gX6_run_X3_save : GoodIn wsX6_run (wsV RX6 65 RX3 yX3_save wsX3_save) := goodIn_app (goodIn_of _ (by decide +kernel)) ggX6_run_X3_save
set_option maxRecDepth 20000 in
theorem ggX6_run_X5_blow : GoodIn wsX6_run wsX5_blow := goodIn_r _ [54, 55, 56, 57, 58, 25, 59, 27, 28, 60, 61, 62, 63, 64, 30, 65, 66, 67, 68, 69, 70, 53, 71, 72, 73, 47, 48, 43, 49, 45, 74, 75, 76, 77, 36, 78, 79, 80, 81, 82, 33, 83, 84, 85, 86, 29, 87, 88, 89, 90, 91, 92, 93, 94, 95, 96, 97, 98, 99, 100, 101, 102, 103, 104, 105, 106, 107, 108, 109, 110, 111, 112, 113, 114, 115, 116, 117, 118, 119, 120, 121, 122, 123, 124, 125, 126, 127, 128, 37, 129, 130, 131, 132, 133, 134, 135, 136, 137, 138, 139, 140, 141, 142, 143, 144, 145, 146, 147, 148, 173, 174, 159, 160, 161, 162, 163, 164, 165, 166, 167, 168, 169, 170, 171, 172] (by decide +kernel) (by decide +kernel)
set_option maxRecDepth 20000 in
theorem gX6_run_X5_blow : GoodIn wsX6_run (wsV RX6 137 RX5 yX5_blow wsX5_blow) := goodIn_app (goodIn_of _ (by decide +kernel)) ggX6_run_X5_blow
theorem dX6_run_0 : decode cX6_run 0 = .ok (.iload_n 1, 1) := by decide +kernel
theorem dX6_run_1 : decode cX6_run 1 = .ok (.iconst 0, 1) := by decide +kernel
theorem dX6_run_2 : decode cX6_run 2 = .ok (.sipush 2000, 3) := by decide +kernel
theorem dX6_run_5 : decode cX6_run 5 = .ok (.invokestatic 52, 3) := by decide +kernel
theorem dX6_run_8 : decode cX6_run 8 = .ok (.ifCond .ne 13, 3) := by decide +kernel
theorem dX6_run_11 : decode cX6_run 11 = .ok (.new 56, 3) := by decide +kernel
theorem dX6_run_14 : decode cX6_run 14 = .ok (.dup, 1) := by decide +kernel
theorem dX6_run_15 : decode cX6_run 15 = .ok (.ldc 135, 2) := by decide +kernel
theorem dX6_run_17 : decode cX6_run 17 = .ok (.invokespecial 60, 3) := by decide +kernel
theorem dX6_run_20 : decode cX6_run 20 = .ok (.athrow, 1) := by decide +kernel
theorem dX6_run_21 : decode cX6_run 21 = .ok (.aload_n 0, 1) := by decide +kernel
theorem dX6_run_22 : decode cX6_run 22 = .ok (.getfield 41, 3) := by decide +kernel
theorem dX6_run_25 : decode cX6_run 25 = .ok (.aload_n 0, 1) := by decide +kernel
theorem dX6_run_26 : decode cX6_run 26 = .ok (.getfield 10, 3) := by decide +kernel
theorem dX6_run_29 : decode cX6_run 29 = .ok (.invokevirtual 65, 3) := by decide +kernel
theorem dX6_run_32 : decode cX6_run 32 = .ok (.aload_n 0, 1) := by decide +kernel
theorem dX6_run_33 : decode cX6_run 33 = .ok (.getfield 21, 3) := by decide +kernel
theorem dX6_run_36 : decode cX6_run 36 = .ok (.iload_n 1, 1) := by decide +kernel
theorem dX6_run_37 : decode cX6_run 37 = .ok (.invokevirtual 137, 3) := by decide +kernel
theorem dX6_run_40 : decode cX6_run 40 = .ok (.ireturn, 1) := by decide +kernel
set_option maxRecDepth 20000 in
theorem ggX6_season_X3_save : GoodIn wsX6_season wsX3_save := goodIn_r _ [7, 8, 9, 10, 11, 12, 6, 13, 14, 15, 16, 17, 18, 19, 20, 21, 22, 23, 24, 25, 26, 27, 28, 29, 30, 31, 32, 33, 34, 35, 36, 37, 38, 39, 40, 41, 42, 78, 79, 80, 81, 82, 83, 84, 85, 86, 87, 88, 89, 90, 91, 92, 93, 94] (by decide +kernel) (by decide +kernel)
set_option maxRecDepth 20000 in
theorem gX6_season_X3_save : GoodIn wsX6_season (wsV RX6 65 RX3 yX3_save wsX3_save) := goodIn_app (goodIn_of _ (by decide +kernel)) ggX6_season_X3_save
set_option maxRecDepth 20000 in
theorem ggX6_season_X1_endSeason : GoodIn wsX6_season wsX1_endSeason := goodIn_r _ [46, 28, 27, 26, 24, 47, 48, 49, 18, 50, 20, 21, 51, 40, 41, 36, 42, 38, 52, 53, 54, 55, 56, 57, 58, 59, 60, 61, 62, 63, 64, 65, 66, 67, 68, 69, 70, 33, 34, 35, 37, 39, 81, 82, 83, 84, 85, 86, 87, 88, 89, 90, 91, 92, 93, 94] (by decide +kernel) (by decide +kernel)
set_option maxRecDepth 20000 in
theorem gX6_season_X1_endSeason : GoodIn wsX6_season (wsV RX6 140 RX1 yX1_endSeason wsX1_endSeason) := goodIn_app (goodIn_of _ (by decide +kernel)) ggX6_season_X1_endSeason
theorem dX6_season_0 : decode cX6_season 0 = .ok (.aload_n 0, 1) := by decide +kernel
theorem dX6_season_1 : decode cX6_season 1 = .ok (.getfield 41, 3) := by decide +kernel
theorem dX6_season_4 : decode cX6_season 4 = .ok (.aload_n 0, 1) := by decide +kernel
theorem dX6_season_5 : decode cX6_season 5 = .ok (.getfield 10, 3) := by decide +kernel
theorem dX6_season_8 : decode cX6_season 8 = .ok (.invokevirtual 65, 3) := by decide +kernel
theorem dX6_season_11 : decode cX6_season 11 = .ok (.aload_n 0, 1) := by decide +kernel
theorem dX6_season_12 : decode cX6_season 12 = .ok (.getfield 10, 3) := by decide +kernel
theorem dX6_season_15 : decode cX6_season 15 = .ok (.invokevirtual 140, 3) := by decide +kernel
theorem dX6_season_18 : decode cX6_season 18 = .ok (.ireturn, 1) := by decide +kernel
set_option maxRecDepth 20000 in
theorem ggX6_value_X6_within : GoodIn wsX6_value wsX6_within := goodIn_r _ [7] (by decide +kernel) (by decide +kernel)
set_option maxRecDepth 20000 in
theorem gX6_value_X6_within : GoodIn wsX6_value (va_wsS RX6 52 yX6_within wsX6_within) := goodIn_app (goodIn_of _ (by decide +kernel)) ggX6_value_X6_within
set_option maxRecDepth 20000 in
theorem ggX6_value_X1_numberOf : GoodIn wsX6_value wsX1_numberOf := goodIn_r _ [12, 13, 14, 15, 16, 17, 18, 19, 20, 21, 22, 23, 24, 32, 33, 34, 35, 36, 37, 38, 39, 40, 41, 42, 43, 44, 45] (by decide +kernel) (by decide +kernel)
set_option maxRecDepth 20000 in
theorem gX6_value_X1_numberOf : GoodIn wsX6_value (wsV RX6 145 RX1 yX1_numberOf wsX1_numberOf) := goodIn_app (goodIn_of _ (by decide +kernel)) ggX6_value_X1_numberOf
theorem dX6_value_0 : decode cX6_value 0 = .ok (.iload_n 1, 1) := by decide +kernel
theorem dX6_value_1 : decode cX6_value 1 = .ok (.iconst 0, 1) := by decide +kernel
theorem dX6_value_2 : decode cX6_value 2 = .ok (.bipush 8, 2) := by decide +kernel
theorem dX6_value_4 : decode cX6_value 4 = .ok (.invokestatic 52, 3) := by decide +kernel
theorem dX6_value_7 : decode cX6_value 7 = .ok (.ifCond .ne 13, 3) := by decide +kernel
theorem dX6_value_10 : decode cX6_value 10 = .ok (.new 56, 3) := by decide +kernel
theorem dX6_value_13 : decode cX6_value 13 = .ok (.dup, 1) := by decide +kernel
theorem dX6_value_14 : decode cX6_value 14 = .ok (.ldc 143, 2) := by decide +kernel
theorem dX6_value_16 : decode cX6_value 16 = .ok (.invokespecial 60, 3) := by decide +kernel
theorem dX6_value_19 : decode cX6_value 19 = .ok (.athrow, 1) := by decide +kernel
theorem dX6_value_20 : decode cX6_value 20 = .ok (.aload_n 0, 1) := by decide +kernel
theorem dX6_value_21 : decode cX6_value 21 = .ok (.getfield 10, 3) := by decide +kernel
theorem dX6_value_24 : decode cX6_value 24 = .ok (.iload_n 1, 1) := by decide +kernel
theorem dX6_value_25 : decode cX6_value 25 = .ok (.invokevirtual 145, 3) := by decide +kernel
theorem dX6_value_28 : decode cX6_value 28 = .ok (.ireturn, 1) := by decide +kernel
set_option maxRecDepth 20000 in
theorem ggX6_cell_X1_cells : GoodIn wsX6_cell wsX1_cells := goodIn_r _ [10, 11, 12, 64, 65, 66, 67, 68, 69, 70, 71, 72, 73, 74, 75, 76] (by decide +kernel) (by decide +kernel)
set_option maxRecDepth 20000 in
theorem gX6_cell_X1_cells : GoodIn wsX6_cell (wsV RX6 75 RX1 yX1_cells wsX1_cells) := goodIn_app (goodIn_of _ (by decide +kernel)) ggX6_cell_X1_cells
set_option maxRecDepth 20000 in
theorem ggX6_cell_X6_within : GoodIn wsX6_cell wsX6_within := goodIn_r _ [16] (by decide +kernel) (by decide +kernel)
set_option maxRecDepth 20000 in
theorem gX6_cell_X6_within : GoodIn wsX6_cell (va_wsS RX6 52 yX6_within wsX6_within) := goodIn_app (goodIn_of _ (by decide +kernel)) ggX6_cell_X6_within
set_option maxRecDepth 20000 in
theorem ggX6_cell_X1_numberOfCell : GoodIn wsX6_cell wsX1_numberOfCell := goodIn_r _ [20, 21, 22, 23, 24, 25, 26, 27, 28, 29, 30, 31, 32, 9, 33, 34, 35, 36, 37, 38, 39, 40, 41, 42, 11, 12, 43, 44, 45, 46, 47, 48, 49, 50, 51, 52, 53, 54, 55, 56, 64, 65, 66, 67, 68, 69, 70, 71, 72, 73, 74, 75, 76, 77] (by decide +kernel) (by decide +kernel)
set_option maxRecDepth 20000 in
theorem gX6_cell_X1_numberOfCell : GoodIn wsX6_cell (wsV RX6 148 RX1 yX1_numberOfCell wsX1_numberOfCell) := goodIn_app (goodIn_of _ (by decide +kernel)) ggX6_cell_X1_numberOfCell
theorem dX6_cell_0 : decode cX6_cell 0 = .ok (.iload_n 1, 1) := by decide +kernel
theorem dX6_cell_1 : decode cX6_cell 1 = .ok (.iconst 0, 1) := by decide +kernel
theorem dX6_cell_2 : decode cX6_cell 2 = .ok (.aload_n 0, 1) := by decide +kernel
theorem dX6_cell_3 : decode cX6_cell 3 = .ok (.getfield 10, 3) := by decide +kernel
theorem dX6_cell_6 : decode cX6_cell 6 = .ok (.invokevirtual 75, 3) := by decide +kernel
theorem dX6_cell_9 : decode cX6_cell 9 = .ok (.iconst 1, 1) := by decide +kernel
theorem dX6_cell_10 : decode cX6_cell 10 = .ok (.isub, 1) := by decide +kernel
theorem dX6_cell_11 : decode cX6_cell 11 = .ok (.invokestatic 52, 3) := by decide +kernel
theorem dX6_cell_14 : decode cX6_cell 14 = .ok (.ifCond .ne 13, 3) := by decide +kernel
theorem dX6_cell_17 : decode cX6_cell 17 = .ok (.new 79, 3) := by decide +kernel
theorem dX6_cell_20 : decode cX6_cell 20 = .ok (.dup, 1) := by decide +kernel
theorem dX6_cell_21 : decode cX6_cell 21 = .ok (.ldc 81, 2) := by decide +kernel
theorem dX6_cell_23 : decode cX6_cell 23 = .ok (.invokespecial 83, 3) := by decide +kernel
theorem dX6_cell_26 : decode cX6_cell 26 = .ok (.athrow, 1) := by decide +kernel
theorem dX6_cell_27 : decode cX6_cell 27 = .ok (.iload_n 2, 1) := by decide +kernel
theorem dX6_cell_28 : decode cX6_cell 28 = .ok (.iconst 0, 1) := by decide +kernel
theorem dX6_cell_29 : decode cX6_cell 29 = .ok (.iconst 5, 1) := by decide +kernel
theorem dX6_cell_30 : decode cX6_cell 30 = .ok (.invokestatic 52, 3) := by decide +kernel
theorem dX6_cell_33 : decode cX6_cell 33 = .ok (.ifCond .ne 13, 3) := by decide +kernel
theorem dX6_cell_36 : decode cX6_cell 36 = .ok (.new 56, 3) := by decide +kernel
theorem dX6_cell_39 : decode cX6_cell 39 = .ok (.dup, 1) := by decide +kernel
theorem dX6_cell_40 : decode cX6_cell 40 = .ok (.ldc 143, 2) := by decide +kernel
theorem dX6_cell_42 : decode cX6_cell 42 = .ok (.invokespecial 60, 3) := by decide +kernel
theorem dX6_cell_45 : decode cX6_cell 45 = .ok (.athrow, 1) := by decide +kernel
theorem dX6_cell_46 : decode cX6_cell 46 = .ok (.aload_n 0, 1) := by decide +kernel
theorem dX6_cell_47 : decode cX6_cell 47 = .ok (.getfield 10, 3) := by decide +kernel
theorem dX6_cell_50 : decode cX6_cell 50 = .ok (.iload_n 1, 1) := by decide +kernel
theorem dX6_cell_51 : decode cX6_cell 51 = .ok (.iload_n 2, 1) := by decide +kernel
theorem dX6_cell_52 : decode cX6_cell 52 = .ok (.invokevirtual 148, 3) := by decide +kernel
theorem dX6_cell_55 : decode cX6_cell 55 = .ok (.ireturn, 1) := by decide +kernel
set_option maxRecDepth 20000 in
theorem ggX6_count_X6_within : GoodIn wsX6_count wsX6_within := goodIn_r _ [7] (by decide +kernel) (by decide +kernel)
set_option maxRecDepth 20000 in
theorem gX6_count_X6_within : GoodIn wsX6_count (va_wsS RX6 52 yX6_within wsX6_within) := goodIn_app (goodIn_of _ (by decide +kernel)) ggX6_count_X6_within
set_option maxRecDepth 20000 in
theorem ggX6_count_X4_at : GoodIn wsX6_count wsX4_at := goodIn_r _ [12, 13, 34] (by decide +kernel) (by decide +kernel)
set_option maxRecDepth 20000 in
theorem gX6_count_X4_at : GoodIn wsX6_count (wsV RX6 88 RX4 yX4_at wsX4_at) := goodIn_app (goodIn_of _ (by decide +kernel)) ggX6_count_X4_at
theorem dX6_count_0 : decode cX6_count 0 = .ok (.iload_n 1, 1) := by decide +kernel
theorem dX6_count_1 : decode cX6_count 1 = .ok (.iconst 0, 1) := by decide +kernel
theorem dX6_count_2 : decode cX6_count 2 = .ok (.bipush 11, 2) := by decide +kernel
theorem dX6_count_4 : decode cX6_count 4 = .ok (.invokestatic 52, 3) := by decide +kernel
theorem dX6_count_7 : decode cX6_count 7 = .ok (.ifCond .ne 13, 3) := by decide +kernel
theorem dX6_count_10 : decode cX6_count 10 = .ok (.new 56, 3) := by decide +kernel
theorem dX6_count_13 : decode cX6_count 13 = .ok (.dup, 1) := by decide +kernel
theorem dX6_count_14 : decode cX6_count 14 = .ok (.ldc 143, 2) := by decide +kernel
theorem dX6_count_16 : decode cX6_count 16 = .ok (.invokespecial 60, 3) := by decide +kernel
theorem dX6_count_19 : decode cX6_count 19 = .ok (.athrow, 1) := by decide +kernel
theorem dX6_count_20 : decode cX6_count 20 = .ok (.aload_n 0, 1) := by decide +kernel
theorem dX6_count_21 : decode cX6_count 21 = .ok (.getfield 10, 3) := by decide +kernel
theorem dX6_count_24 : decode cX6_count 24 = .ok (.getfield 152, 3) := by decide +kernel
theorem dX6_count_27 : decode cX6_count 27 = .ok (.iload_n 1, 1) := by decide +kernel
theorem dX6_count_28 : decode cX6_count 28 = .ok (.invokevirtual 88, 3) := by decide +kernel
theorem dX6_count_31 : decode cX6_count 31 = .ok (.ireturn, 1) := by decide +kernel
set_option maxRecDepth 20000 in
theorem ggX6_latest_X6_within : GoodIn wsX6_latest wsX6_within := goodIn_r _ [7] (by decide +kernel) (by decide +kernel)
set_option maxRecDepth 20000 in
theorem gX6_latest_X6_within : GoodIn wsX6_latest (va_wsS RX6 52 yX6_within wsX6_within) := goodIn_app (goodIn_of _ (by decide +kernel)) ggX6_latest_X6_within
set_option maxRecDepth 20000 in
theorem ggX6_latest_X4_at : GoodIn wsX6_latest wsX4_at := goodIn_r _ [12, 13, 34] (by decide +kernel) (by decide +kernel)
set_option maxRecDepth 20000 in
theorem gX6_latest_X4_at : GoodIn wsX6_latest (wsV RX6 88 RX4 yX4_at wsX4_at) := goodIn_app (goodIn_of _ (by decide +kernel)) ggX6_latest_X4_at
theorem dX6_latest_0 : decode cX6_latest 0 = .ok (.iload_n 1, 1) := by decide +kernel
theorem dX6_latest_1 : decode cX6_latest 1 = .ok (.iconst 0, 1) := by decide +kernel
theorem dX6_latest_2 : decode cX6_latest 2 = .ok (.iconst 3, 1) := by decide +kernel
theorem dX6_latest_3 : decode cX6_latest 3 = .ok (.invokestatic 52, 3) := by decide +kernel
theorem dX6_latest_6 : decode cX6_latest 6 = .ok (.ifCond .ne 13, 3) := by decide +kernel
theorem dX6_latest_9 : decode cX6_latest 9 = .ok (.new 56, 3) := by decide +kernel
theorem dX6_latest_12 : decode cX6_latest 12 = .ok (.dup, 1) := by decide +kernel
theorem dX6_latest_13 : decode cX6_latest 13 = .ok (.ldc 143, 2) := by decide +kernel
theorem dX6_latest_15 : decode cX6_latest 15 = .ok (.invokespecial 60, 3) := by decide +kernel
theorem dX6_latest_18 : decode cX6_latest 18 = .ok (.athrow, 1) := by decide +kernel
theorem dX6_latest_19 : decode cX6_latest 19 = .ok (.aload_n 0, 1) := by decide +kernel
theorem dX6_latest_20 : decode cX6_latest 20 = .ok (.getfield 10, 3) := by decide +kernel
theorem dX6_latest_23 : decode cX6_latest 23 = .ok (.getfield 155, 3) := by decide +kernel
theorem dX6_latest_26 : decode cX6_latest 26 = .ok (.iload_n 1, 1) := by decide +kernel
theorem dX6_latest_27 : decode cX6_latest 27 = .ok (.invokevirtual 88, 3) := by decide +kernel
theorem dX6_latest_30 : decode cX6_latest 30 = .ok (.ireturn, 1) := by decide +kernel
set_option maxRecDepth 20000 in
theorem ggX6_slabs_X1_sumOfHeights : GoodIn wsX6_slabs wsX1_sumOfHeights := goodIn_r _ [6, 7, 8, 9, 10, 5, 11, 12, 13, 14, 15, 16, 17, 18, 19, 27, 28, 29, 30, 31, 32, 33, 34, 35, 36, 37, 38, 39, 40] (by decide +kernel) (by decide +kernel)
set_option maxRecDepth 20000 in
theorem gX6_slabs_X1_sumOfHeights : GoodIn wsX6_slabs (wsV RX6 158 RX1 yX1_sumOfHeights wsX1_sumOfHeights) := goodIn_app (goodIn_of _ (by decide +kernel)) ggX6_slabs_X1_sumOfHeights
theorem dX6_slabs_0 : decode cX6_slabs 0 = .ok (.aload_n 0, 1) := by decide +kernel
theorem dX6_slabs_1 : decode cX6_slabs 1 = .ok (.getfield 10, 3) := by decide +kernel
theorem dX6_slabs_4 : decode cX6_slabs 4 = .ok (.invokevirtual 158, 3) := by decide +kernel
theorem dX6_slabs_7 : decode cX6_slabs 7 = .ok (.ireturn, 1) := by decide +kernel
set_option maxRecDepth 20000 in
theorem ggX6_relief_X1_highestCell : GoodIn wsX6_relief wsX1_highestCell := goodIn_r _ [8, 9, 10, 11, 12, 7, 13, 14, 15, 16, 17, 18, 19, 20, 21, 49, 50, 51, 52, 53, 54, 55, 56, 57, 58, 59, 60, 61, 62] (by decide +kernel) (by decide +kernel)
set_option maxRecDepth 20000 in
theorem gX6_relief_X1_highestCell : GoodIn wsX6_relief (wsV RX6 161 RX1 yX1_highestCell wsX1_highestCell) := goodIn_app (goodIn_of _ (by decide +kernel)) ggX6_relief_X1_highestCell
set_option maxRecDepth 20000 in
theorem ggX6_relief_X4_at : GoodIn wsX6_relief wsX4_at := goodIn_r _ [20, 21, 62] (by decide +kernel) (by decide +kernel)
set_option maxRecDepth 20000 in
theorem gX6_relief_X4_at : GoodIn wsX6_relief (wsV RX6 88 RX4 yX4_at wsX4_at) := goodIn_app (goodIn_of _ (by decide +kernel)) ggX6_relief_X4_at
set_option maxRecDepth 20000 in
theorem ggX6_relief_X1_steepest : GoodIn wsX6_relief wsX1_steepest := goodIn_r _ [26, 9, 27, 28, 29, 30, 31, 32, 33, 10, 11, 12, 7, 13, 14, 15, 16, 17, 18, 19, 20, 21, 34, 35, 36, 37, 49, 50, 51, 52, 53, 54, 55, 56, 57, 58, 59, 60, 61, 62] (by decide +kernel) (by decide +kernel)
set_option maxRecDepth 20000 in
theorem gX6_relief_X1_steepest : GoodIn wsX6_relief (wsV RX6 164 RX1 yX1_steepest wsX1_steepest) := goodIn_app (goodIn_of _ (by decide +kernel)) ggX6_relief_X1_steepest
set_option maxRecDepth 20000 in
theorem ggX6_relief_X1_bareCells : GoodIn wsX6_relief wsX1_bareCells := goodIn_r _ [41, 9, 10, 11, 12, 7, 13, 14, 15, 16, 17, 18, 19, 20, 21, 49, 50, 51, 52, 53, 54, 55, 56, 57, 58, 59, 60, 61, 62] (by decide +kernel) (by decide +kernel)
set_option maxRecDepth 20000 in
theorem gX6_relief_X1_bareCells : GoodIn wsX6_relief (wsV RX6 167 RX1 yX1_bareCells wsX1_bareCells) := goodIn_app (goodIn_of _ (by decide +kernel)) ggX6_relief_X1_bareCells
theorem dX6_relief_0 : decode cX6_relief 0 = .ok (.iload_n 1, 1) := by decide +kernel
theorem dX6_relief_1 : decode cX6_relief 1 = .ok (.tableswitch 73 0 3 #[31, 49, 57, 65], 31) := by decide +kernel
theorem dX6_relief_32 : decode cX6_relief 32 = .ok (.aload_n 0, 1) := by decide +kernel
theorem dX6_relief_33 : decode cX6_relief 33 = .ok (.getfield 10, 3) := by decide +kernel
theorem dX6_relief_36 : decode cX6_relief 36 = .ok (.getfield 84, 3) := by decide +kernel
theorem dX6_relief_39 : decode cX6_relief 39 = .ok (.aload_n 0, 1) := by decide +kernel
theorem dX6_relief_40 : decode cX6_relief 40 = .ok (.getfield 10, 3) := by decide +kernel
theorem dX6_relief_43 : decode cX6_relief 43 = .ok (.invokevirtual 161, 3) := by decide +kernel
theorem dX6_relief_46 : decode cX6_relief 46 = .ok (.invokevirtual 88, 3) := by decide +kernel
theorem dX6_relief_49 : decode cX6_relief 49 = .ok (.ireturn, 1) := by decide +kernel
theorem dX6_relief_50 : decode cX6_relief 50 = .ok (.aload_n 0, 1) := by decide +kernel
theorem dX6_relief_51 : decode cX6_relief 51 = .ok (.getfield 10, 3) := by decide +kernel
theorem dX6_relief_54 : decode cX6_relief 54 = .ok (.invokevirtual 161, 3) := by decide +kernel
theorem dX6_relief_57 : decode cX6_relief 57 = .ok (.ireturn, 1) := by decide +kernel
theorem dX6_relief_58 : decode cX6_relief 58 = .ok (.aload_n 0, 1) := by decide +kernel
theorem dX6_relief_59 : decode cX6_relief 59 = .ok (.getfield 10, 3) := by decide +kernel
theorem dX6_relief_62 : decode cX6_relief 62 = .ok (.invokevirtual 164, 3) := by decide +kernel
theorem dX6_relief_65 : decode cX6_relief 65 = .ok (.ireturn, 1) := by decide +kernel
theorem dX6_relief_66 : decode cX6_relief 66 = .ok (.aload_n 0, 1) := by decide +kernel
theorem dX6_relief_67 : decode cX6_relief 67 = .ok (.getfield 10, 3) := by decide +kernel
theorem dX6_relief_70 : decode cX6_relief 70 = .ok (.invokevirtual 167, 3) := by decide +kernel
theorem dX6_relief_73 : decode cX6_relief 73 = .ok (.ireturn, 1) := by decide +kernel
theorem dX6_relief_74 : decode cX6_relief 74 = .ok (.new 56, 3) := by decide +kernel
theorem dX6_relief_77 : decode cX6_relief 77 = .ok (.dup, 1) := by decide +kernel
theorem dX6_relief_78 : decode cX6_relief 78 = .ok (.ldc 143, 2) := by decide +kernel
theorem dX6_relief_80 : decode cX6_relief 80 = .ok (.invokespecial 60, 3) := by decide +kernel
theorem dX6_relief_83 : decode cX6_relief 83 = .ok (.athrow, 1) := by decide +kernel
set_option maxRecDepth 20000 in
theorem ggX6_shadowHeight_X1_meanShadowHeight : GoodIn wsX6_shadowHeight wsX1_meanShadowHeight := goodIn_r _ [6, 7, 8, 9, 10, 5, 11, 12, 13, 14, 15, 16, 17, 18, 19, 20, 21, 22, 23, 24, 25, 26, 27, 28, 29, 30, 31, 32, 40, 41, 42, 43, 44, 45, 46, 47, 48, 49, 50, 51, 52, 53] (by decide +kernel) (by decide +kernel)
set_option maxRecDepth 20000 in
theorem gX6_shadowHeight_X1_meanShadowHeight : GoodIn wsX6_shadowHeight (wsV RX6 170 RX1 yX1_meanShadowHeight wsX1_meanShadowHeight) := goodIn_app (goodIn_of _ (by decide +kernel)) ggX6_shadowHeight_X1_meanShadowHeight
theorem dX6_shadowHeight_0 : decode cX6_shadowHeight 0 = .ok (.aload_n 0, 1) := by decide +kernel
theorem dX6_shadowHeight_1 : decode cX6_shadowHeight 1 = .ok (.getfield 10, 3) := by decide +kernel
theorem dX6_shadowHeight_4 : decode cX6_shadowHeight 4 = .ok (.invokevirtual 170, 3) := by decide +kernel
theorem dX6_shadowHeight_7 : decode cX6_shadowHeight 7 = .ok (.dreturn, 1) := by decide +kernel
set_option maxRecDepth 20000 in
theorem ggX6_dunes_X6_within : GoodIn wsX6_dunes wsX6_within := goodIn_r _ [8] (by decide +kernel) (by decide +kernel)
set_option maxRecDepth 20000 in
theorem gX6_dunes_X6_within : GoodIn wsX6_dunes (va_wsS RX6 52 yX6_within wsX6_within) := goodIn_app (goodIn_of _ (by decide +kernel)) ggX6_dunes_X6_within
set_option maxRecDepth 20000 in
theorem ggX6_dunes_X0_find : GoodIn wsX6_dunes wsX0_find := goodIn_r _ [13, 14, 15, 16, 17, 18, 19, 20, 21, 22, 23, 24, 25, 26, 27, 28, 29, 30, 31, 32, 33, 34, 35, 36, 37, 12, 38, 39, 40, 41, 42, 43, 44, 45, 46, 47, 48, 49, 50, 51, 59, 60, 61, 62, 63, 64, 65, 66, 67, 68, 69, 70, 71, 72, 73, 74, 75, 76, 77] (by decide +kernel) (by decide +kernel)
set_option maxRecDepth 20000 in
theorem gX6_dunes_X0_find : GoodIn wsX6_dunes (wsV RX6 176 RX0 yX0_find wsX0_find) := goodIn_app (goodIn_of _ (by decide +kernel)) ggX6_dunes_X0_find
theorem dX6_dunes_0 : decode cX6_dunes 0 = .ok (.iload_n 1, 1) := by decide +kernel
theorem dX6_dunes_1 : decode cX6_dunes 1 = .ok (.iconst 1, 1) := by decide +kernel
theorem dX6_dunes_2 : decode cX6_dunes 2 = .ok (.bipush 99, 2) := by decide +kernel
theorem dX6_dunes_4 : decode cX6_dunes 4 = .ok (.invokestatic 52, 3) := by decide +kernel
theorem dX6_dunes_7 : decode cX6_dunes 7 = .ok (.ifCond .ne 13, 3) := by decide +kernel
theorem dX6_dunes_10 : decode cX6_dunes 10 = .ok (.new 56, 3) := by decide +kernel
theorem dX6_dunes_13 : decode cX6_dunes 13 = .ok (.dup, 1) := by decide +kernel
theorem dX6_dunes_14 : decode cX6_dunes 14 = .ok (.ldc 174, 2) := by decide +kernel
theorem dX6_dunes_16 : decode cX6_dunes 16 = .ok (.invokespecial 60, 3) := by decide +kernel
theorem dX6_dunes_19 : decode cX6_dunes 19 = .ok (.athrow, 1) := by decide +kernel
theorem dX6_dunes_20 : decode cX6_dunes 20 = .ok (.aload_n 0, 1) := by decide +kernel
theorem dX6_dunes_21 : decode cX6_dunes 21 = .ok (.getfield 34, 3) := by decide +kernel
theorem dX6_dunes_24 : decode cX6_dunes 24 = .ok (.aload_n 0, 1) := by decide +kernel
theorem dX6_dunes_25 : decode cX6_dunes 25 = .ok (.getfield 10, 3) := by decide +kernel
theorem dX6_dunes_28 : decode cX6_dunes 28 = .ok (.iload_n 1, 1) := by decide +kernel
theorem dX6_dunes_29 : decode cX6_dunes 29 = .ok (.invokevirtual 176, 3) := by decide +kernel
theorem dX6_dunes_32 : decode cX6_dunes 32 = .ok (.ireturn, 1) := by decide +kernel
set_option maxRecDepth 20000 in
theorem ggX6_greatestDune_X6_within : GoodIn wsX6_greatestDune wsX6_within := goodIn_r _ [8] (by decide +kernel) (by decide +kernel)
set_option maxRecDepth 20000 in
theorem gX6_greatestDune_X6_within : GoodIn wsX6_greatestDune (va_wsS RX6 52 yX6_within wsX6_within) := goodIn_app (goodIn_of _ (by decide +kernel)) ggX6_greatestDune_X6_within
set_option maxRecDepth 20000 in
theorem ggX6_greatestDune_X0_find : GoodIn wsX6_greatestDune wsX0_find := goodIn_r _ [13, 14, 15, 16, 17, 18, 19, 20, 21, 22, 23, 24, 25, 26, 27, 28, 29, 30, 31, 32, 33, 34, 35, 36, 37, 12, 38, 39, 40, 41, 42, 43, 44, 45, 46, 47, 48, 49, 50, 51, 67, 68, 69, 70, 71, 72, 73, 74, 75, 76, 77, 78, 79, 80, 81, 82, 83, 84, 85] (by decide +kernel) (by decide +kernel)
set_option maxRecDepth 20000 in
theorem gX6_greatestDune_X0_find : GoodIn wsX6_greatestDune (wsV RX6 176 RX0 yX0_find wsX0_find) := goodIn_app (goodIn_of _ (by decide +kernel)) ggX6_greatestDune_X0_find
set_option maxRecDepth 20000 in
theorem ggX6_greatestDune_X0_mostSlabs : GoodIn wsX6_greatestDune wsX0_mostSlabs := goodIn_r _ [55, 17, 16, 56, 57, 58, 59, 31, 32, 33, 21, 34, 23, 67, 68, 69, 70, 71, 85] (by decide +kernel) (by decide +kernel)
set_option maxRecDepth 20000 in
theorem gX6_greatestDune_X0_mostSlabs : GoodIn wsX6_greatestDune (wsV RX6 180 RX0 yX0_mostSlabs wsX0_mostSlabs) := goodIn_app (goodIn_of _ (by decide +kernel)) ggX6_greatestDune_X0_mostSlabs
theorem dX6_greatestDune_0 : decode cX6_greatestDune 0 = .ok (.iload_n 1, 1) := by decide +kernel
theorem dX6_greatestDune_1 : decode cX6_greatestDune 1 = .ok (.iconst 1, 1) := by decide +kernel
theorem dX6_greatestDune_2 : decode cX6_greatestDune 2 = .ok (.bipush 99, 2) := by decide +kernel
theorem dX6_greatestDune_4 : decode cX6_greatestDune 4 = .ok (.invokestatic 52, 3) := by decide +kernel
theorem dX6_greatestDune_7 : decode cX6_greatestDune 7 = .ok (.ifCond .ne 13, 3) := by decide +kernel
theorem dX6_greatestDune_10 : decode cX6_greatestDune 10 = .ok (.new 56, 3) := by decide +kernel
theorem dX6_greatestDune_13 : decode cX6_greatestDune 13 = .ok (.dup, 1) := by decide +kernel
theorem dX6_greatestDune_14 : decode cX6_greatestDune 14 = .ok (.ldc 174, 2) := by decide +kernel
theorem dX6_greatestDune_16 : decode cX6_greatestDune 16 = .ok (.invokespecial 60, 3) := by decide +kernel
theorem dX6_greatestDune_19 : decode cX6_greatestDune 19 = .ok (.athrow, 1) := by decide +kernel
theorem dX6_greatestDune_20 : decode cX6_greatestDune 20 = .ok (.aload_n 0, 1) := by decide +kernel
theorem dX6_greatestDune_21 : decode cX6_greatestDune 21 = .ok (.getfield 34, 3) := by decide +kernel
theorem dX6_greatestDune_24 : decode cX6_greatestDune 24 = .ok (.aload_n 0, 1) := by decide +kernel
theorem dX6_greatestDune_25 : decode cX6_greatestDune 25 = .ok (.getfield 10, 3) := by decide +kernel
theorem dX6_greatestDune_28 : decode cX6_greatestDune 28 = .ok (.iload_n 1, 1) := by decide +kernel
theorem dX6_greatestDune_29 : decode cX6_greatestDune 29 = .ok (.invokevirtual 176, 3) := by decide +kernel
theorem dX6_greatestDune_32 : decode cX6_greatestDune 32 = .ok (.pop, 1) := by decide +kernel
theorem dX6_greatestDune_33 : decode cX6_greatestDune 33 = .ok (.aload_n 0, 1) := by decide +kernel
theorem dX6_greatestDune_34 : decode cX6_greatestDune 34 = .ok (.getfield 34, 3) := by decide +kernel
theorem dX6_greatestDune_37 : decode cX6_greatestDune 37 = .ok (.invokevirtual 180, 3) := by decide +kernel
theorem dX6_greatestDune_40 : decode cX6_greatestDune 40 = .ok (.ireturn, 1) := by decide +kernel
set_option maxRecDepth 20000 in
theorem ggX6_duneOf_X1_cells : GoodIn wsX6_duneOf wsX1_cells := goodIn_r _ [11, 12, 13, 66, 67, 68, 69, 70, 71, 72, 73, 74, 75, 76, 77, 78] (by decide +kernel) (by decide +kernel)
set_option maxRecDepth 20000 in
theorem gX6_duneOf_X1_cells : GoodIn wsX6_duneOf (wsV RX6 75 RX1 yX1_cells wsX1_cells) := goodIn_app (goodIn_of _ (by decide +kernel)) ggX6_duneOf_X1_cells
set_option maxRecDepth 20000 in
theorem ggX6_duneOf_X6_within : GoodIn wsX6_duneOf wsX6_within := goodIn_r _ [17] (by decide +kernel) (by decide +kernel)
set_option maxRecDepth 20000 in
theorem gX6_duneOf_X6_within : GoodIn wsX6_duneOf (va_wsS RX6 52 yX6_within wsX6_within) := goodIn_app (goodIn_of _ (by decide +kernel)) ggX6_duneOf_X6_within
set_option maxRecDepth 20000 in
theorem ggX6_duneOf_X0_find : GoodIn wsX6_duneOf wsX0_find := goodIn_r _ [22, 23, 24, 25, 26, 27, 28, 29, 30, 31, 32, 33, 8, 9, 10, 11, 12, 13, 34, 35, 36, 37, 38, 39, 40, 21, 41, 42, 43, 44, 45, 46, 47, 48, 49, 50, 51, 52, 53, 54, 79, 80, 81, 82, 83, 66, 67, 68, 69, 70, 71, 72, 73, 74, 75, 76, 77, 78, 84] (by decide +kernel) (by decide +kernel)
set_option maxRecDepth 20000 in
theorem gX6_duneOf_X0_find : GoodIn wsX6_duneOf (wsV RX6 176 RX0 yX0_find wsX0_find) := goodIn_app (goodIn_of _ (by decide +kernel)) ggX6_duneOf_X0_find
set_option maxRecDepth 20000 in
theorem ggX6_duneOf_X0_sizeAround : GoodIn wsX6_duneOf wsX0_sizeAround := goodIn_r _ [58, 24, 23, 34, 35, 36, 30, 37, 32, 79, 80, 81, 82, 83, 84] (by decide +kernel) (by decide +kernel)
set_option maxRecDepth 20000 in
theorem gX6_duneOf_X0_sizeAround : GoodIn wsX6_duneOf (wsV RX6 183 RX0 yX0_sizeAround wsX0_sizeAround) := goodIn_app (goodIn_of _ (by decide +kernel)) ggX6_duneOf_X0_sizeAround
theorem dX6_duneOf_0 : decode cX6_duneOf 0 = .ok (.iload_n 1, 1) := by decide +kernel
theorem dX6_duneOf_1 : decode cX6_duneOf 1 = .ok (.iconst 0, 1) := by decide +kernel
theorem dX6_duneOf_2 : decode cX6_duneOf 2 = .ok (.aload_n 0, 1) := by decide +kernel
theorem dX6_duneOf_3 : decode cX6_duneOf 3 = .ok (.getfield 10, 3) := by decide +kernel
theorem dX6_duneOf_6 : decode cX6_duneOf 6 = .ok (.invokevirtual 75, 3) := by decide +kernel
theorem dX6_duneOf_9 : decode cX6_duneOf 9 = .ok (.iconst 1, 1) := by decide +kernel
theorem dX6_duneOf_10 : decode cX6_duneOf 10 = .ok (.isub, 1) := by decide +kernel
theorem dX6_duneOf_11 : decode cX6_duneOf 11 = .ok (.invokestatic 52, 3) := by decide +kernel
theorem dX6_duneOf_14 : decode cX6_duneOf 14 = .ok (.ifCond .ne 13, 3) := by decide +kernel
theorem dX6_duneOf_17 : decode cX6_duneOf 17 = .ok (.new 79, 3) := by decide +kernel
theorem dX6_duneOf_20 : decode cX6_duneOf 20 = .ok (.dup, 1) := by decide +kernel
theorem dX6_duneOf_21 : decode cX6_duneOf 21 = .ok (.ldc 81, 2) := by decide +kernel
theorem dX6_duneOf_23 : decode cX6_duneOf 23 = .ok (.invokespecial 83, 3) := by decide +kernel
theorem dX6_duneOf_26 : decode cX6_duneOf 26 = .ok (.athrow, 1) := by decide +kernel
theorem dX6_duneOf_27 : decode cX6_duneOf 27 = .ok (.iload_n 2, 1) := by decide +kernel
theorem dX6_duneOf_28 : decode cX6_duneOf 28 = .ok (.iconst 1, 1) := by decide +kernel
theorem dX6_duneOf_29 : decode cX6_duneOf 29 = .ok (.bipush 99, 2) := by decide +kernel
theorem dX6_duneOf_31 : decode cX6_duneOf 31 = .ok (.invokestatic 52, 3) := by decide +kernel
theorem dX6_duneOf_34 : decode cX6_duneOf 34 = .ok (.ifCond .ne 13, 3) := by decide +kernel
theorem dX6_duneOf_37 : decode cX6_duneOf 37 = .ok (.new 56, 3) := by decide +kernel
theorem dX6_duneOf_40 : decode cX6_duneOf 40 = .ok (.dup, 1) := by decide +kernel
theorem dX6_duneOf_41 : decode cX6_duneOf 41 = .ok (.ldc 174, 2) := by decide +kernel
theorem dX6_duneOf_43 : decode cX6_duneOf 43 = .ok (.invokespecial 60, 3) := by decide +kernel
theorem dX6_duneOf_46 : decode cX6_duneOf 46 = .ok (.athrow, 1) := by decide +kernel
theorem dX6_duneOf_47 : decode cX6_duneOf 47 = .ok (.aload_n 0, 1) := by decide +kernel
theorem dX6_duneOf_48 : decode cX6_duneOf 48 = .ok (.getfield 34, 3) := by decide +kernel
theorem dX6_duneOf_51 : decode cX6_duneOf 51 = .ok (.aload_n 0, 1) := by decide +kernel
theorem dX6_duneOf_52 : decode cX6_duneOf 52 = .ok (.getfield 10, 3) := by decide +kernel
theorem dX6_duneOf_55 : decode cX6_duneOf 55 = .ok (.iload_n 2, 1) := by decide +kernel
theorem dX6_duneOf_56 : decode cX6_duneOf 56 = .ok (.invokevirtual 176, 3) := by decide +kernel
theorem dX6_duneOf_59 : decode cX6_duneOf 59 = .ok (.pop, 1) := by decide +kernel
theorem dX6_duneOf_60 : decode cX6_duneOf 60 = .ok (.aload_n 0, 1) := by decide +kernel
theorem dX6_duneOf_61 : decode cX6_duneOf 61 = .ok (.getfield 34, 3) := by decide +kernel
theorem dX6_duneOf_64 : decode cX6_duneOf 64 = .ok (.iload_n 1, 1) := by decide +kernel
theorem dX6_duneOf_65 : decode cX6_duneOf 65 = .ok (.invokevirtual 183, 3) := by decide +kernel
theorem dX6_duneOf_68 : decode cX6_duneOf 68 = .ok (.ireturn, 1) := by decide +kernel
set_option maxRecDepth 20000 in
theorem ggX6_dunesAfter_X6_within : GoodIn wsX6_dunesAfter wsX6_within := goodIn_r _ [10] (by decide +kernel) (by decide +kernel)
set_option maxRecDepth 20000 in
theorem gX6_dunesAfter_X6_within : GoodIn wsX6_dunesAfter (va_wsS RX6 52 yX6_within wsX6_within) := goodIn_app (goodIn_of _ (by decide +kernel)) ggX6_dunesAfter_X6_within
set_option maxRecDepth 20000 in
theorem ggX6_dunesAfter_X1_copyFrom : GoodIn wsX6_dunesAfter wsX1_copyFrom := goodIn_r _ [15, 16, 17, 18, 19, 20, 21, 22, 23, 24, 25, 26, 27, 28, 29, 30, 31, 32, 33, 34, 35, 36, 37, 38, 168, 169, 170, 171, 172, 173, 174, 175, 176, 177, 178, 179, 180, 181] (by decide +kernel) (by decide +kernel)
set_option maxRecDepth 20000 in
theorem gX6_dunesAfter_X1_copyFrom : GoodIn wsX6_dunesAfter (wsV RX6 186 RX1 yX1_copyFrom wsX1_copyFrom) := goodIn_app (goodIn_of _ (by decide +kernel)) ggX6_dunesAfter_X1_copyFrom
set_option maxRecDepth 20000 in
theorem ggX6_dunesAfter_X5_blow : GoodIn wsX6_dunesAfter wsX5_blow := goodIn_r _ [43, 44, 45, 46, 47, 14, 48, 16, 17, 49, 50, 51, 52, 53, 19, 54, 55, 56, 57, 58, 59, 42, 60, 61, 62, 36, 37, 32, 38, 34, 63, 64, 65, 66, 25, 67, 68, 69, 70, 71, 22, 72, 73, 74, 75, 18, 76, 77, 78, 79, 80, 81, 82, 83, 84, 85, 86, 87, 88, 89, 90, 91, 92, 93, 94, 95, 96, 97, 98, 99, 100, 101, 102, 103, 104, 105, 106, 107, 108, 109, 110, 111, 112, 113, 114, 115, 116, 117, 26, 118, 119, 120, 121, 122, 123, 124, 125, 126, 127, 128, 129, 130, 131, 132, 133, 134, 135, 136, 137, 182, 183, 168, 169, 170, 171, 172, 173, 174, 175, 176, 177, 178, 179, 180, 181] (by decide +kernel) (by decide +kernel)
set_option maxRecDepth 20000 in
theorem gX6_dunesAfter_X5_blow : GoodIn wsX6_dunesAfter (wsV RX6 137 RX5 yX5_blow wsX5_blow) := goodIn_app (goodIn_of _ (by decide +kernel)) ggX6_dunesAfter_X5_blow
set_option maxRecDepth 20000 in
theorem ggX6_dunesAfter_X0_find : GoodIn wsX6_dunesAfter wsX0_find := goodIn_r _ [142, 143, 144, 145, 146, 147, 148, 149, 32, 150, 34, 151, 46, 47, 14, 48, 16, 17, 152, 36, 37, 38, 153, 154, 155, 141, 156, 157, 158, 135, 136, 137, 159, 85, 86, 87, 160, 77, 78, 79, 184, 185, 186, 187, 188, 168, 169, 170, 171, 172, 173, 174, 175, 176, 177, 178, 179, 180, 181] (by decide +kernel) (by decide +kernel)
set_option maxRecDepth 20000 in
theorem gX6_dunesAfter_X0_find : GoodIn wsX6_dunesAfter (wsV RX6 176 RX0 yX0_find wsX0_find) := goodIn_app (goodIn_of _ (by decide +kernel)) ggX6_dunesAfter_X0_find
theorem dX6_dunesAfter_0 : decode cX6_dunesAfter 0 = .ok (.iload_n 1, 1) := by decide +kernel
theorem dX6_dunesAfter_1 : decode cX6_dunesAfter 1 = .ok (.iconst 0, 1) := by decide +kernel
theorem dX6_dunesAfter_2 : decode cX6_dunesAfter 2 = .ok (.sipush 1000, 3) := by decide +kernel
theorem dX6_dunesAfter_5 : decode cX6_dunesAfter 5 = .ok (.invokestatic 52, 3) := by decide +kernel
theorem dX6_dunesAfter_8 : decode cX6_dunesAfter 8 = .ok (.ifCond .ne 13, 3) := by decide +kernel
theorem dX6_dunesAfter_11 : decode cX6_dunesAfter 11 = .ok (.new 56, 3) := by decide +kernel
theorem dX6_dunesAfter_14 : decode cX6_dunesAfter 14 = .ok (.dup, 1) := by decide +kernel
theorem dX6_dunesAfter_15 : decode cX6_dunesAfter 15 = .ok (.ldc 135, 2) := by decide +kernel
theorem dX6_dunesAfter_17 : decode cX6_dunesAfter 17 = .ok (.invokespecial 60, 3) := by decide +kernel
theorem dX6_dunesAfter_20 : decode cX6_dunesAfter 20 = .ok (.athrow, 1) := by decide +kernel
theorem dX6_dunesAfter_21 : decode cX6_dunesAfter 21 = .ok (.iload_n 2, 1) := by decide +kernel
theorem dX6_dunesAfter_22 : decode cX6_dunesAfter 22 = .ok (.iconst 1, 1) := by decide +kernel
theorem dX6_dunesAfter_23 : decode cX6_dunesAfter 23 = .ok (.bipush 99, 2) := by decide +kernel
theorem dX6_dunesAfter_25 : decode cX6_dunesAfter 25 = .ok (.invokestatic 52, 3) := by decide +kernel
theorem dX6_dunesAfter_28 : decode cX6_dunesAfter 28 = .ok (.ifCond .ne 13, 3) := by decide +kernel
theorem dX6_dunesAfter_31 : decode cX6_dunesAfter 31 = .ok (.new 56, 3) := by decide +kernel
theorem dX6_dunesAfter_34 : decode cX6_dunesAfter 34 = .ok (.dup, 1) := by decide +kernel
theorem dX6_dunesAfter_35 : decode cX6_dunesAfter 35 = .ok (.ldc 174, 2) := by decide +kernel
theorem dX6_dunesAfter_37 : decode cX6_dunesAfter 37 = .ok (.invokespecial 60, 3) := by decide +kernel
theorem dX6_dunesAfter_40 : decode cX6_dunesAfter 40 = .ok (.athrow, 1) := by decide +kernel
theorem dX6_dunesAfter_41 : decode cX6_dunesAfter 41 = .ok (.aload_n 0, 1) := by decide +kernel
theorem dX6_dunesAfter_42 : decode cX6_dunesAfter 42 = .ok (.getfield 25, 3) := by decide +kernel
theorem dX6_dunesAfter_45 : decode cX6_dunesAfter 45 = .ok (.aload_n 0, 1) := by decide +kernel
theorem dX6_dunesAfter_46 : decode cX6_dunesAfter 46 = .ok (.getfield 10, 3) := by decide +kernel
theorem dX6_dunesAfter_49 : decode cX6_dunesAfter 49 = .ok (.invokevirtual 186, 3) := by decide +kernel
theorem dX6_dunesAfter_52 : decode cX6_dunesAfter 52 = .ok (.aload_n 0, 1) := by decide +kernel
theorem dX6_dunesAfter_53 : decode cX6_dunesAfter 53 = .ok (.getfield 28, 3) := by decide +kernel
theorem dX6_dunesAfter_56 : decode cX6_dunesAfter 56 = .ok (.iload_n 1, 1) := by decide +kernel
theorem dX6_dunesAfter_57 : decode cX6_dunesAfter 57 = .ok (.invokevirtual 137, 3) := by decide +kernel
theorem dX6_dunesAfter_60 : decode cX6_dunesAfter 60 = .ok (.pop, 1) := by decide +kernel
theorem dX6_dunesAfter_61 : decode cX6_dunesAfter 61 = .ok (.aload_n 0, 1) := by decide +kernel
theorem dX6_dunesAfter_62 : decode cX6_dunesAfter 62 = .ok (.getfield 34, 3) := by decide +kernel
theorem dX6_dunesAfter_65 : decode cX6_dunesAfter 65 = .ok (.aload_n 0, 1) := by decide +kernel
theorem dX6_dunesAfter_66 : decode cX6_dunesAfter 66 = .ok (.getfield 25, 3) := by decide +kernel
theorem dX6_dunesAfter_69 : decode cX6_dunesAfter 69 = .ok (.iload_n 2, 1) := by decide +kernel
theorem dX6_dunesAfter_70 : decode cX6_dunesAfter 70 = .ok (.invokevirtual 176, 3) := by decide +kernel
theorem dX6_dunesAfter_73 : decode cX6_dunesAfter 73 = .ok (.ireturn, 1) := by decide +kernel
set_option maxRecDepth 20000 in
theorem ggX6_bestFence_X6_within : GoodIn wsX6_bestFence wsX6_within := goodIn_r _ [9] (by decide +kernel) (by decide +kernel)
set_option maxRecDepth 20000 in
theorem gX6_bestFence_X6_within : GoodIn wsX6_bestFence (va_wsS RX6 52 yX6_within wsX6_within) := goodIn_app (goodIn_of _ (by decide +kernel)) ggX6_bestFence_X6_within
set_option maxRecDepth 20000 in
theorem ggX6_bestFence_X1_hasFence : GoodIn wsX6_bestFence wsX1_hasFence := goodIn_r _ [14, 15, 16, 17, 18, 19, 20, 21, 161, 162, 163, 164, 165, 166, 167, 168, 169, 170, 171, 172, 173, 174] (by decide +kernel) (by decide +kernel)
set_option maxRecDepth 20000 in
theorem gX6_bestFence_X1_hasFence : GoodIn wsX6_bestFence (wsV RX6 197 RX1 yX1_hasFence wsX1_hasFence) := goodIn_app (goodIn_of _ (by decide +kernel)) ggX6_bestFence_X1_hasFence
set_option maxRecDepth 20000 in
theorem ggX6_bestFence_X6_trappedInTrial : GoodIn wsX6_bestFence wsX6_trappedInTrial := goodIn_r _ [25, 26, 5, 27, 28, 29, 30, 13, 31, 32, 33, 34, 35, 36, 37, 38, 39, 40, 15, 41, 42, 43, 44, 45, 46, 19, 47, 21, 48, 17, 18, 20, 49, 50, 51, 52, 53, 54, 55, 56, 57, 58, 59, 60, 61, 62, 63, 64, 65, 66, 67, 68, 69, 70, 71, 72, 73, 74, 75, 76, 77, 78, 79, 80, 81, 11, 12, 14, 16, 82, 83, 84, 85, 86, 87, 88, 89, 90, 91, 92, 93, 94, 95, 96, 97, 98, 99, 100, 101, 102, 103, 104, 105, 106, 107, 108, 109, 110, 111, 112, 113, 114, 115, 116, 117, 118, 119, 120, 121, 122, 123, 124, 125, 126, 127, 128, 129, 130, 131, 132, 133, 134, 135, 136, 137, 138, 139, 140, 141, 142, 143, 144, 145, 146, 147, 148, 149, 150, 151, 152, 153, 154, 155, 156, 157, 158, 159, 160, 161, 162, 163, 164, 165, 166, 167, 168, 169, 170, 171, 172, 173, 174, 175, 176] (by decide +kernel) (by decide +kernel)
set_option maxRecDepth 20000 in
theorem gX6_bestFence_X6_trappedInTrial : GoodIn wsX6_bestFence (wsV RX6 201 RX6 yX6_trappedInTrial wsX6_trappedInTrial) := goodIn_app (goodIn_of _ (by decide +kernel)) ggX6_bestFence_X6_trappedInTrial
theorem dX6_bestFence_0 : decode cX6_bestFence 0 = .ok (.iload_n 1, 1) := by decide +kernel
theorem dX6_bestFence_1 : decode cX6_bestFence 1 = .ok (.iconst 0, 1) := by decide +kernel
theorem dX6_bestFence_2 : decode cX6_bestFence 2 = .ok (.aload_n 0, 1) := by decide +kernel
theorem dX6_bestFence_3 : decode cX6_bestFence 3 = .ok (.getfield 10, 3) := by decide +kernel
theorem dX6_bestFence_6 : decode cX6_bestFence 6 = .ok (.getfield 189, 3) := by decide +kernel
theorem dX6_bestFence_9 : decode cX6_bestFence 9 = .ok (.iconst 1, 1) := by decide +kernel
theorem dX6_bestFence_10 : decode cX6_bestFence 10 = .ok (.isub, 1) := by decide +kernel
theorem dX6_bestFence_11 : decode cX6_bestFence 11 = .ok (.invokestatic 52, 3) := by decide +kernel
theorem dX6_bestFence_14 : decode cX6_bestFence 14 = .ok (.ifCond .ne 13, 3) := by decide +kernel
theorem dX6_bestFence_17 : decode cX6_bestFence 17 = .ok (.new 79, 3) := by decide +kernel
theorem dX6_bestFence_20 : decode cX6_bestFence 20 = .ok (.dup, 1) := by decide +kernel
theorem dX6_bestFence_21 : decode cX6_bestFence 21 = .ok (.ldc 192, 2) := by decide +kernel
theorem dX6_bestFence_23 : decode cX6_bestFence 23 = .ok (.invokespecial 83, 3) := by decide +kernel
theorem dX6_bestFence_26 : decode cX6_bestFence 26 = .ok (.athrow, 1) := by decide +kernel
theorem dX6_bestFence_27 : decode cX6_bestFence 27 = .ok (.iload_n 2, 1) := by decide +kernel
theorem dX6_bestFence_28 : decode cX6_bestFence 28 = .ok (.iconst 0, 1) := by decide +kernel
theorem dX6_bestFence_29 : decode cX6_bestFence 29 = .ok (.sipush 500, 3) := by decide +kernel
theorem dX6_bestFence_32 : decode cX6_bestFence 32 = .ok (.invokestatic 52, 3) := by decide +kernel
theorem dX6_bestFence_35 : decode cX6_bestFence 35 = .ok (.ifCond .ne 13, 3) := by decide +kernel
theorem dX6_bestFence_38 : decode cX6_bestFence 38 = .ok (.new 56, 3) := by decide +kernel
theorem dX6_bestFence_41 : decode cX6_bestFence 41 = .ok (.dup, 1) := by decide +kernel
theorem dX6_bestFence_42 : decode cX6_bestFence 42 = .ok (.ldc 135, 2) := by decide +kernel
theorem dX6_bestFence_44 : decode cX6_bestFence 44 = .ok (.invokespecial 60, 3) := by decide +kernel
theorem dX6_bestFence_47 : decode cX6_bestFence 47 = .ok (.athrow, 1) := by decide +kernel
theorem dX6_bestFence_48 : decode cX6_bestFence 48 = .ok (.iconst (-1), 1) := by decide +kernel
theorem dX6_bestFence_49 : decode cX6_bestFence 49 = .ok (.istore_n 3, 1) := by decide +kernel
theorem dX6_bestFence_50 : decode cX6_bestFence 50 = .ok (.iconst (-1), 1) := by decide +kernel
theorem dX6_bestFence_51 : decode cX6_bestFence 51 = .ok (.istore 4, 2) := by decide +kernel
theorem dX6_bestFence_53 : decode cX6_bestFence 53 = .ok (.aload_n 0, 1) := by decide +kernel
theorem dX6_bestFence_54 : decode cX6_bestFence 54 = .ok (.getfield 10, 3) := by decide +kernel
theorem dX6_bestFence_57 : decode cX6_bestFence 57 = .ok (.getfield 194, 3) := by decide +kernel
theorem dX6_bestFence_60 : decode cX6_bestFence 60 = .ok (.istore 5, 2) := by decide +kernel
theorem dX6_bestFence_62 : decode cX6_bestFence 62 = .ok (.iconst 0, 1) := by decide +kernel
theorem dX6_bestFence_63 : decode cX6_bestFence 63 = .ok (.istore 6, 2) := by decide +kernel
theorem dX6_bestFence_65 : decode cX6_bestFence 65 = .ok (.iload 6, 2) := by decide +kernel
theorem dX6_bestFence_67 : decode cX6_bestFence 67 = .ok (.iload 5, 2) := by decide +kernel
theorem dX6_bestFence_69 : decode cX6_bestFence 69 = .ok (.if_icmp .ge 62, 3) := by decide +kernel
theorem dX6_bestFence_72 : decode cX6_bestFence 72 = .ok (.iload 6, 2) := by decide +kernel
theorem dX6_bestFence_74 : decode cX6_bestFence 74 = .ok (.aload_n 0, 1) := by decide +kernel
theorem dX6_bestFence_75 : decode cX6_bestFence 75 = .ok (.getfield 10, 3) := by decide +kernel
theorem dX6_bestFence_78 : decode cX6_bestFence 78 = .ok (.getfield 189, 3) := by decide +kernel
theorem dX6_bestFence_81 : decode cX6_bestFence 81 = .ok (.imul, 1) := by decide +kernel
theorem dX6_bestFence_82 : decode cX6_bestFence 82 = .ok (.iload_n 1, 1) := by decide +kernel
theorem dX6_bestFence_83 : decode cX6_bestFence 83 = .ok (.iadd, 1) := by decide +kernel
theorem dX6_bestFence_84 : decode cX6_bestFence 84 = .ok (.istore 7, 2) := by decide +kernel
theorem dX6_bestFence_86 : decode cX6_bestFence 86 = .ok (.aload_n 0, 1) := by decide +kernel
theorem dX6_bestFence_87 : decode cX6_bestFence 87 = .ok (.getfield 10, 3) := by decide +kernel
theorem dX6_bestFence_90 : decode cX6_bestFence 90 = .ok (.iload 7, 2) := by decide +kernel
theorem dX6_bestFence_92 : decode cX6_bestFence 92 = .ok (.invokevirtual 197, 3) := by decide +kernel
theorem dX6_bestFence_95 : decode cX6_bestFence 95 = .ok (.ifCond .eq 7, 3) := by decide +kernel
theorem dX6_bestFence_98 : decode cX6_bestFence 98 = .ok (.iconst (-1), 1) := by decide +kernel
theorem dX6_bestFence_99 : decode cX6_bestFence 99 = .ok (.goto 10, 3) := by decide +kernel
theorem dX6_bestFence_102 : decode cX6_bestFence 102 = .ok (.aload_n 0, 1) := by decide +kernel
theorem dX6_bestFence_103 : decode cX6_bestFence 103 = .ok (.iload 7, 2) := by decide +kernel
theorem dX6_bestFence_105 : decode cX6_bestFence 105 = .ok (.iload_n 2, 1) := by decide +kernel
theorem dX6_bestFence_106 : decode cX6_bestFence 106 = .ok (.invokevirtual 201, 3) := by decide +kernel
theorem dX6_bestFence_109 : decode cX6_bestFence 109 = .ok (.istore 8, 2) := by decide +kernel
theorem dX6_bestFence_111 : decode cX6_bestFence 111 = .ok (.iload 8, 2) := by decide +kernel
theorem dX6_bestFence_113 : decode cX6_bestFence 113 = .ok (.iload 4, 2) := by decide +kernel
theorem dX6_bestFence_115 : decode cX6_bestFence 115 = .ok (.if_icmp .le 10, 3) := by decide +kernel
theorem dX6_bestFence_118 : decode cX6_bestFence 118 = .ok (.iload 6, 2) := by decide +kernel
theorem dX6_bestFence_120 : decode cX6_bestFence 120 = .ok (.istore_n 3, 1) := by decide +kernel
theorem dX6_bestFence_121 : decode cX6_bestFence 121 = .ok (.iload 8, 2) := by decide +kernel
theorem dX6_bestFence_123 : decode cX6_bestFence 123 = .ok (.istore 4, 2) := by decide +kernel
theorem dX6_bestFence_125 : decode cX6_bestFence 125 = .ok (.iinc 6 1, 3) := by decide +kernel
theorem dX6_bestFence_128 : decode cX6_bestFence 128 = .ok (.goto (-63), 3) := by decide +kernel
theorem dX6_bestFence_131 : decode cX6_bestFence 131 = .ok (.iload_n 3, 1) := by decide +kernel
theorem dX6_bestFence_132 : decode cX6_bestFence 132 = .ok (.ireturn, 1) := by decide +kernel
set_option maxRecDepth 20000 in
theorem ggX6_liveliestWind_X6_within : GoodIn wsX6_liveliestWind wsX6_within := goodIn_r _ [9] (by decide +kernel) (by decide +kernel)
set_option maxRecDepth 20000 in
theorem gX6_liveliestWind_X6_within : GoodIn wsX6_liveliestWind (va_wsS RX6 52 yX6_within wsX6_within) := goodIn_app (goodIn_of _ (by decide +kernel)) ggX6_liveliestWind_X6_within
set_option maxRecDepth 20000 in
theorem ggX6_liveliestWind_X1_copyFrom : GoodIn wsX6_liveliestWind wsX1_copyFrom := goodIn_r _ [14, 15, 16, 17, 18, 19, 20, 21, 22, 23, 24, 25, 26, 27, 28, 29, 30, 31, 32, 33, 34, 35, 36, 37, 144, 145, 146, 147, 148, 149, 150, 151, 152, 153, 154, 155, 156, 157] (by decide +kernel) (by decide +kernel)
set_option maxRecDepth 20000 in
theorem gX6_liveliestWind_X1_copyFrom : GoodIn wsX6_liveliestWind (wsV RX6 186 RX1 yX1_copyFrom wsX1_copyFrom) := goodIn_app (goodIn_of _ (by decide +kernel)) ggX6_liveliestWind_X1_copyFrom
set_option maxRecDepth 20000 in
theorem ggX6_liveliestWind_X5_blow : GoodIn wsX6_liveliestWind wsX5_blow := goodIn_r _ [42, 43, 44, 45, 46, 13, 47, 15, 16, 48, 49, 50, 51, 52, 18, 53, 54, 55, 56, 57, 58, 41, 59, 60, 61, 35, 36, 31, 37, 33, 62, 63, 64, 65, 24, 66, 67, 68, 69, 70, 21, 71, 72, 73, 74, 17, 75, 76, 77, 78, 79, 80, 81, 82, 83, 84, 85, 86, 87, 88, 89, 90, 91, 92, 93, 94, 95, 96, 97, 98, 99, 100, 101, 102, 103, 104, 105, 106, 107, 108, 109, 110, 111, 112, 113, 114, 115, 116, 25, 117, 118, 119, 120, 121, 122, 123, 124, 125, 126, 127, 128, 129, 130, 131, 132, 133, 134, 135, 136, 158, 159, 144, 145, 146, 147, 148, 149, 150, 151, 152, 153, 154, 155, 156, 157] (by decide +kernel) (by decide +kernel)
set_option maxRecDepth 20000 in
theorem gX6_liveliestWind_X5_blow : GoodIn wsX6_liveliestWind (wsV RX6 137 RX5 yX5_blow wsX5_blow) := goodIn_app (goodIn_of _ (by decide +kernel)) ggX6_liveliestWind_X5_blow
theorem dX6_liveliestWind_0 : decode cX6_liveliestWind 0 = .ok (.iload_n 1, 1) := by decide +kernel
theorem dX6_liveliestWind_1 : decode cX6_liveliestWind 1 = .ok (.iconst 0, 1) := by decide +kernel
theorem dX6_liveliestWind_2 : decode cX6_liveliestWind 2 = .ok (.sipush 500, 3) := by decide +kernel
theorem dX6_liveliestWind_5 : decode cX6_liveliestWind 5 = .ok (.invokestatic 52, 3) := by decide +kernel
theorem dX6_liveliestWind_8 : decode cX6_liveliestWind 8 = .ok (.ifCond .ne 13, 3) := by decide +kernel
theorem dX6_liveliestWind_11 : decode cX6_liveliestWind 11 = .ok (.new 56, 3) := by decide +kernel
theorem dX6_liveliestWind_14 : decode cX6_liveliestWind 14 = .ok (.dup, 1) := by decide +kernel
theorem dX6_liveliestWind_15 : decode cX6_liveliestWind 15 = .ok (.ldc 135, 2) := by decide +kernel
theorem dX6_liveliestWind_17 : decode cX6_liveliestWind 17 = .ok (.invokespecial 60, 3) := by decide +kernel
theorem dX6_liveliestWind_20 : decode cX6_liveliestWind 20 = .ok (.athrow, 1) := by decide +kernel
theorem dX6_liveliestWind_21 : decode cX6_liveliestWind 21 = .ok (.iconst (-1), 1) := by decide +kernel
theorem dX6_liveliestWind_22 : decode cX6_liveliestWind 22 = .ok (.istore_n 2, 1) := by decide +kernel
theorem dX6_liveliestWind_23 : decode cX6_liveliestWind 23 = .ok (.iconst (-1), 1) := by decide +kernel
theorem dX6_liveliestWind_24 : decode cX6_liveliestWind 24 = .ok (.istore_n 3, 1) := by decide +kernel
theorem dX6_liveliestWind_25 : decode cX6_liveliestWind 25 = .ok (.iconst 0, 1) := by decide +kernel
theorem dX6_liveliestWind_26 : decode cX6_liveliestWind 26 = .ok (.istore 4, 2) := by decide +kernel
theorem dX6_liveliestWind_28 : decode cX6_liveliestWind 28 = .ok (.iload 4, 2) := by decide +kernel
theorem dX6_liveliestWind_30 : decode cX6_liveliestWind 30 = .ok (.iconst 4, 1) := by decide +kernel
theorem dX6_liveliestWind_31 : decode cX6_liveliestWind 31 = .ok (.if_icmp .ge 51, 3) := by decide +kernel
theorem dX6_liveliestWind_34 : decode cX6_liveliestWind 34 = .ok (.aload_n 0, 1) := by decide +kernel
theorem dX6_liveliestWind_35 : decode cX6_liveliestWind 35 = .ok (.getfield 25, 3) := by decide +kernel
theorem dX6_liveliestWind_38 : decode cX6_liveliestWind 38 = .ok (.aload_n 0, 1) := by decide +kernel
theorem dX6_liveliestWind_39 : decode cX6_liveliestWind 39 = .ok (.getfield 10, 3) := by decide +kernel
theorem dX6_liveliestWind_42 : decode cX6_liveliestWind 42 = .ok (.invokevirtual 186, 3) := by decide +kernel
theorem dX6_liveliestWind_45 : decode cX6_liveliestWind 45 = .ok (.aload_n 0, 1) := by decide +kernel
theorem dX6_liveliestWind_46 : decode cX6_liveliestWind 46 = .ok (.getfield 25, 3) := by decide +kernel
theorem dX6_liveliestWind_49 : decode cX6_liveliestWind 49 = .ok (.iload 4, 2) := by decide +kernel
theorem dX6_liveliestWind_51 : decode cX6_liveliestWind 51 = .ok (.putfield 128, 3) := by decide +kernel
theorem dX6_liveliestWind_54 : decode cX6_liveliestWind 54 = .ok (.aload_n 0, 1) := by decide +kernel
theorem dX6_liveliestWind_55 : decode cX6_liveliestWind 55 = .ok (.getfield 28, 3) := by decide +kernel
theorem dX6_liveliestWind_58 : decode cX6_liveliestWind 58 = .ok (.iload_n 1, 1) := by decide +kernel
theorem dX6_liveliestWind_59 : decode cX6_liveliestWind 59 = .ok (.invokevirtual 137, 3) := by decide +kernel
theorem dX6_liveliestWind_62 : decode cX6_liveliestWind 62 = .ok (.istore 5, 2) := by decide +kernel
theorem dX6_liveliestWind_64 : decode cX6_liveliestWind 64 = .ok (.iload 5, 2) := by decide +kernel
theorem dX6_liveliestWind_66 : decode cX6_liveliestWind 66 = .ok (.iload_n 3, 1) := by decide +kernel
theorem dX6_liveliestWind_67 : decode cX6_liveliestWind 67 = .ok (.if_icmp .le 9, 3) := by decide +kernel
theorem dX6_liveliestWind_70 : decode cX6_liveliestWind 70 = .ok (.iload 4, 2) := by decide +kernel
theorem dX6_liveliestWind_72 : decode cX6_liveliestWind 72 = .ok (.istore_n 2, 1) := by decide +kernel
theorem dX6_liveliestWind_73 : decode cX6_liveliestWind 73 = .ok (.iload 5, 2) := by decide +kernel
theorem dX6_liveliestWind_75 : decode cX6_liveliestWind 75 = .ok (.istore_n 3, 1) := by decide +kernel
theorem dX6_liveliestWind_76 : decode cX6_liveliestWind 76 = .ok (.iinc 4 1, 3) := by decide +kernel
theorem dX6_liveliestWind_79 : decode cX6_liveliestWind 79 = .ok (.goto (-51), 3) := by decide +kernel
theorem dX6_liveliestWind_82 : decode cX6_liveliestWind 82 = .ok (.iload_n 2, 1) := by decide +kernel
theorem dX6_liveliestWind_83 : decode cX6_liveliestWind 83 = .ok (.ireturn, 1) := by decide +kernel
set_option maxRecDepth 20000 in
theorem ggX6_undo_X3_restore : GoodIn wsX6_undo wsX3_restore := goodIn_r _ [9, 10, 11, 12, 13, 8, 14, 15, 16, 17, 18, 19, 20, 21, 22, 23, 24, 25, 26, 27, 28, 29, 30, 31, 32, 33, 34, 35, 36, 37, 38, 39, 40, 41, 42, 43, 44, 52, 53, 54, 55, 56, 57, 58, 59, 60, 61, 62, 63, 64, 65, 66, 67, 68] (by decide +kernel) (by decide +kernel)
set_option maxRecDepth 20000 in
theorem gX6_undo_X3_restore : GoodIn wsX6_undo (wsV RX6 231 RX3 yX3_restore wsX3_restore) := goodIn_app (goodIn_of _ (by decide +kernel)) ggX6_undo_X3_restore
theorem dX6_undo_0 : decode cX6_undo 0 = .ok (.aload_n 0, 1) := by decide +kernel
theorem dX6_undo_1 : decode cX6_undo 1 = .ok (.getfield 41, 3) := by decide +kernel
theorem dX6_undo_4 : decode cX6_undo 4 = .ok (.getfield 226, 3) := by decide +kernel
theorem dX6_undo_7 : decode cX6_undo 7 = .ok (.ifCond .gt 13, 3) := by decide +kernel
theorem dX6_undo_10 : decode cX6_undo 10 = .ok (.new 209, 3) := by decide +kernel
theorem dX6_undo_13 : decode cX6_undo 13 = .ok (.dup, 1) := by decide +kernel
theorem dX6_undo_14 : decode cX6_undo 14 = .ok (.ldc 229, 2) := by decide +kernel
theorem dX6_undo_16 : decode cX6_undo 16 = .ok (.invokespecial 213, 3) := by decide +kernel
theorem dX6_undo_19 : decode cX6_undo 19 = .ok (.athrow, 1) := by decide +kernel
theorem dX6_undo_20 : decode cX6_undo 20 = .ok (.aload_n 0, 1) := by decide +kernel
theorem dX6_undo_21 : decode cX6_undo 21 = .ok (.getfield 41, 3) := by decide +kernel
theorem dX6_undo_24 : decode cX6_undo 24 = .ok (.aload_n 0, 1) := by decide +kernel
theorem dX6_undo_25 : decode cX6_undo 25 = .ok (.getfield 10, 3) := by decide +kernel
theorem dX6_undo_28 : decode cX6_undo 28 = .ok (.invokevirtual 231, 3) := by decide +kernel
theorem dX6_undo_31 : decode cX6_undo 31 = .ok (.aload_n 0, 1) := by decide +kernel
theorem dX6_undo_32 : decode cX6_undo 32 = .ok (.getfield 41, 3) := by decide +kernel
theorem dX6_undo_35 : decode cX6_undo 35 = .ok (.getfield 226, 3) := by decide +kernel
theorem dX6_undo_38 : decode cX6_undo 38 = .ok (.ireturn, 1) := by decide +kernel
set_option maxRecDepth 20000 in
theorem ggX6_digest_X6_hashed : GoodIn wsX6_digest wsX6_hashed := goodIn_r _ [9, 10] (by decide +kernel) (by decide +kernel)
set_option maxRecDepth 20000 in
theorem gX6_digest_X6_hashed : GoodIn wsX6_digest (va_wsS RX6 236 yX6_hashed wsX6_hashed) := goodIn_app (goodIn_of _ (by decide +kernel)) ggX6_digest_X6_hashed
set_option maxRecDepth 20000 in
theorem ggX6_digest_X1_numberOf : GoodIn wsX6_digest wsX1_numberOf := goodIn_r _ [15, 16, 17, 18, 19, 20, 21, 22, 23, 24, 25, 26, 27, 106, 107, 108, 109, 110, 111, 112, 113, 114, 115, 116, 117, 118, 122] (by decide +kernel) (by decide +kernel)
set_option maxRecDepth 20000 in
theorem gX6_digest_X1_numberOf : GoodIn wsX6_digest (wsV RX6 145 RX1 yX1_numberOf wsX1_numberOf) := goodIn_app (goodIn_of _ (by decide +kernel)) ggX6_digest_X1_numberOf
set_option maxRecDepth 20000 in
theorem ggX6_digest_X1_cells : GoodIn wsX6_digest wsX1_cells := goodIn_r _ [31, 16, 17, 106, 107, 108, 109, 110, 111, 112, 113, 114, 115, 116, 117, 118] (by decide +kernel) (by decide +kernel)
set_option maxRecDepth 20000 in
theorem gX6_digest_X1_cells : GoodIn wsX6_digest (wsV RX6 75 RX1 yX1_cells wsX1_cells) := goodIn_app (goodIn_of _ (by decide +kernel)) ggX6_digest_X1_cells
set_option maxRecDepth 20000 in
theorem ggX6_digest_X1_numberOfCell : GoodIn wsX6_digest wsX1_numberOfCell := goodIn_r _ [35, 36, 37, 38, 22, 23, 24, 25, 26, 27, 39, 40, 41, 14, 42, 43, 44, 45, 46, 47, 48, 49, 50, 51, 16, 17, 52, 53, 54, 55, 18, 56, 57, 58, 59, 60, 61, 62, 63, 64, 106, 107, 108, 109, 110, 111, 112, 113, 114, 115, 116, 117, 118, 122] (by decide +kernel) (by decide +kernel)
set_option maxRecDepth 20000 in
theorem gX6_digest_X1_numberOfCell : GoodIn wsX6_digest (wsV RX6 148 RX1 yX1_numberOfCell wsX1_numberOfCell) := goodIn_app (goodIn_of _ (by decide +kernel)) ggX6_digest_X1_numberOfCell
set_option maxRecDepth 20000 in
theorem ggX6_digest_X4_at : GoodIn wsX6_digest wsX4_at := goodIn_r _ [26, 27, 122] (by decide +kernel) (by decide +kernel)
set_option maxRecDepth 20000 in
theorem gX6_digest_X4_at : GoodIn wsX6_digest (wsV RX6 88 RX4 yX4_at wsX4_at) := goodIn_app (goodIn_of _ (by decide +kernel)) ggX6_digest_X4_at
set_option maxRecDepth 20000 in
theorem ggX6_digest_X0_find : GoodIn wsX6_digest wsX0_find := goodIn_r _ [70, 71, 72, 73, 74, 75, 76, 77, 25, 78, 27, 79, 29, 30, 14, 31, 16, 17, 80, 23, 24, 26, 81, 82, 83, 69, 84, 85, 86, 87, 88, 89, 90, 91, 92, 93, 94, 57, 58, 59, 123, 124, 125, 126, 127, 106, 107, 108, 109, 110, 111, 112, 113, 114, 115, 116, 117, 118, 122] (by decide +kernel) (by decide +kernel)
set_option maxRecDepth 20000 in
theorem gX6_digest_X0_find : GoodIn wsX6_digest (wsV RX6 176 RX0 yX0_find wsX0_find) := goodIn_app (goodIn_of _ (by decide +kernel)) ggX6_digest_X0_find
theorem dX6_digest_0 : decode cX6_digest 0 = .ok (.ldc2_w 234, 3) := by decide +kernel
theorem dX6_digest_3 : decode cX6_digest 3 = .ok (.aload_n 0, 1) := by decide +kernel
theorem dX6_digest_4 : decode cX6_digest 4 = .ok (.getfield 48, 3) := by decide +kernel
theorem dX6_digest_7 : decode cX6_digest 7 = .ok (.getfield 206, 3) := by decide +kernel
theorem dX6_digest_10 : decode cX6_digest 10 = .ok (.invokestatic 236, 3) := by decide +kernel
theorem dX6_digest_13 : decode cX6_digest 13 = .ok (.lstore_n 1, 1) := by decide +kernel
theorem dX6_digest_14 : decode cX6_digest 14 = .ok (.iconst 0, 1) := by decide +kernel
theorem dX6_digest_15 : decode cX6_digest 15 = .ok (.istore_n 3, 1) := by decide +kernel
theorem dX6_digest_16 : decode cX6_digest 16 = .ok (.iload_n 3, 1) := by decide +kernel
theorem dX6_digest_17 : decode cX6_digest 17 = .ok (.bipush 9, 2) := by decide +kernel
theorem dX6_digest_19 : decode cX6_digest 19 = .ok (.if_icmp .ge 22, 3) := by decide +kernel
theorem dX6_digest_22 : decode cX6_digest 22 = .ok (.lload_n 1, 1) := by decide +kernel
theorem dX6_digest_23 : decode cX6_digest 23 = .ok (.aload_n 0, 1) := by decide +kernel
theorem dX6_digest_24 : decode cX6_digest 24 = .ok (.getfield 10, 3) := by decide +kernel
theorem dX6_digest_27 : decode cX6_digest 27 = .ok (.iload_n 3, 1) := by decide +kernel
theorem dX6_digest_28 : decode cX6_digest 28 = .ok (.invokevirtual 145, 3) := by decide +kernel
theorem dX6_digest_31 : decode cX6_digest 31 = .ok (.invokestatic 236, 3) := by decide +kernel
theorem dX6_digest_34 : decode cX6_digest 34 = .ok (.lstore_n 1, 1) := by decide +kernel
theorem dX6_digest_35 : decode cX6_digest 35 = .ok (.iinc 3 1, 3) := by decide +kernel
theorem dX6_digest_38 : decode cX6_digest 38 = .ok (.goto (-22), 3) := by decide +kernel
theorem dX6_digest_41 : decode cX6_digest 41 = .ok (.aload_n 0, 1) := by decide +kernel
theorem dX6_digest_42 : decode cX6_digest 42 = .ok (.getfield 10, 3) := by decide +kernel
theorem dX6_digest_45 : decode cX6_digest 45 = .ok (.invokevirtual 75, 3) := by decide +kernel
theorem dX6_digest_48 : decode cX6_digest 48 = .ok (.istore_n 3, 1) := by decide +kernel
theorem dX6_digest_49 : decode cX6_digest 49 = .ok (.iconst 0, 1) := by decide +kernel
theorem dX6_digest_50 : decode cX6_digest 50 = .ok (.istore 4, 2) := by decide +kernel
theorem dX6_digest_52 : decode cX6_digest 52 = .ok (.iload 4, 2) := by decide +kernel
theorem dX6_digest_54 : decode cX6_digest 54 = .ok (.iload_n 3, 1) := by decide +kernel
theorem dX6_digest_55 : decode cX6_digest 55 = .ok (.if_icmp .ge 41, 3) := by decide +kernel
theorem dX6_digest_58 : decode cX6_digest 58 = .ok (.iconst 0, 1) := by decide +kernel
theorem dX6_digest_59 : decode cX6_digest 59 = .ok (.istore 5, 2) := by decide +kernel
theorem dX6_digest_61 : decode cX6_digest 61 = .ok (.iload 5, 2) := by decide +kernel
theorem dX6_digest_63 : decode cX6_digest 63 = .ok (.bipush 6, 2) := by decide +kernel
theorem dX6_digest_65 : decode cX6_digest 65 = .ok (.if_icmp .ge 25, 3) := by decide +kernel
theorem dX6_digest_68 : decode cX6_digest 68 = .ok (.lload_n 1, 1) := by decide +kernel
theorem dX6_digest_69 : decode cX6_digest 69 = .ok (.aload_n 0, 1) := by decide +kernel
theorem dX6_digest_70 : decode cX6_digest 70 = .ok (.getfield 10, 3) := by decide +kernel
theorem dX6_digest_73 : decode cX6_digest 73 = .ok (.iload 4, 2) := by decide +kernel
theorem dX6_digest_75 : decode cX6_digest 75 = .ok (.iload 5, 2) := by decide +kernel
theorem dX6_digest_77 : decode cX6_digest 77 = .ok (.invokevirtual 148, 3) := by decide +kernel
theorem dX6_digest_80 : decode cX6_digest 80 = .ok (.invokestatic 236, 3) := by decide +kernel
theorem dX6_digest_83 : decode cX6_digest 83 = .ok (.lstore_n 1, 1) := by decide +kernel
theorem dX6_digest_84 : decode cX6_digest 84 = .ok (.iinc 5 1, 3) := by decide +kernel
theorem dX6_digest_87 : decode cX6_digest 87 = .ok (.goto (-26), 3) := by decide +kernel
theorem dX6_digest_90 : decode cX6_digest 90 = .ok (.iinc 4 1, 3) := by decide +kernel
theorem dX6_digest_93 : decode cX6_digest 93 = .ok (.goto (-41), 3) := by decide +kernel
theorem dX6_digest_96 : decode cX6_digest 96 = .ok (.iconst 0, 1) := by decide +kernel
theorem dX6_digest_97 : decode cX6_digest 97 = .ok (.istore 4, 2) := by decide +kernel
theorem dX6_digest_99 : decode cX6_digest 99 = .ok (.iload 4, 2) := by decide +kernel
theorem dX6_digest_101 : decode cX6_digest 101 = .ok (.bipush 12, 2) := by decide +kernel
theorem dX6_digest_103 : decode cX6_digest 103 = .ok (.if_icmp .ge 26, 3) := by decide +kernel
theorem dX6_digest_106 : decode cX6_digest 106 = .ok (.lload_n 1, 1) := by decide +kernel
theorem dX6_digest_107 : decode cX6_digest 107 = .ok (.aload_n 0, 1) := by decide +kernel
theorem dX6_digest_108 : decode cX6_digest 108 = .ok (.getfield 10, 3) := by decide +kernel
theorem dX6_digest_111 : decode cX6_digest 111 = .ok (.getfield 152, 3) := by decide +kernel
theorem dX6_digest_114 : decode cX6_digest 114 = .ok (.iload 4, 2) := by decide +kernel
theorem dX6_digest_116 : decode cX6_digest 116 = .ok (.invokevirtual 88, 3) := by decide +kernel
theorem dX6_digest_119 : decode cX6_digest 119 = .ok (.invokestatic 236, 3) := by decide +kernel
theorem dX6_digest_122 : decode cX6_digest 122 = .ok (.lstore_n 1, 1) := by decide +kernel
theorem dX6_digest_123 : decode cX6_digest 123 = .ok (.iinc 4 1, 3) := by decide +kernel
theorem dX6_digest_126 : decode cX6_digest 126 = .ok (.goto (-27), 3) := by decide +kernel
theorem dX6_digest_129 : decode cX6_digest 129 = .ok (.iconst 0, 1) := by decide +kernel
theorem dX6_digest_130 : decode cX6_digest 130 = .ok (.istore 4, 2) := by decide +kernel
theorem dX6_digest_132 : decode cX6_digest 132 = .ok (.iload 4, 2) := by decide +kernel
theorem dX6_digest_134 : decode cX6_digest 134 = .ok (.iconst 4, 1) := by decide +kernel
theorem dX6_digest_135 : decode cX6_digest 135 = .ok (.if_icmp .ge 26, 3) := by decide +kernel
theorem dX6_digest_138 : decode cX6_digest 138 = .ok (.lload_n 1, 1) := by decide +kernel
theorem dX6_digest_139 : decode cX6_digest 139 = .ok (.aload_n 0, 1) := by decide +kernel
theorem dX6_digest_140 : decode cX6_digest 140 = .ok (.getfield 10, 3) := by decide +kernel
theorem dX6_digest_143 : decode cX6_digest 143 = .ok (.getfield 155, 3) := by decide +kernel
theorem dX6_digest_146 : decode cX6_digest 146 = .ok (.iload 4, 2) := by decide +kernel
theorem dX6_digest_148 : decode cX6_digest 148 = .ok (.invokevirtual 88, 3) := by decide +kernel
theorem dX6_digest_151 : decode cX6_digest 151 = .ok (.invokestatic 236, 3) := by decide +kernel
theorem dX6_digest_154 : decode cX6_digest 154 = .ok (.lstore_n 1, 1) := by decide +kernel
theorem dX6_digest_155 : decode cX6_digest 155 = .ok (.iinc 4 1, 3) := by decide +kernel
theorem dX6_digest_158 : decode cX6_digest 158 = .ok (.goto (-26), 3) := by decide +kernel
theorem dX6_digest_161 : decode cX6_digest 161 = .ok (.iconst 1, 1) := by decide +kernel
theorem dX6_digest_162 : decode cX6_digest 162 = .ok (.istore 4, 2) := by decide +kernel
theorem dX6_digest_164 : decode cX6_digest 164 = .ok (.iload 4, 2) := by decide +kernel
theorem dX6_digest_166 : decode cX6_digest 166 = .ok (.iconst 5, 1) := by decide +kernel
theorem dX6_digest_167 : decode cX6_digest 167 = .ok (.if_icmp .gt 27, 3) := by decide +kernel
theorem dX6_digest_170 : decode cX6_digest 170 = .ok (.lload_n 1, 1) := by decide +kernel
theorem dX6_digest_171 : decode cX6_digest 171 = .ok (.aload_n 0, 1) := by decide +kernel
theorem dX6_digest_172 : decode cX6_digest 172 = .ok (.getfield 34, 3) := by decide +kernel
theorem dX6_digest_175 : decode cX6_digest 175 = .ok (.aload_n 0, 1) := by decide +kernel
theorem dX6_digest_176 : decode cX6_digest 176 = .ok (.getfield 10, 3) := by decide +kernel
theorem dX6_digest_179 : decode cX6_digest 179 = .ok (.iload 4, 2) := by decide +kernel
theorem dX6_digest_181 : decode cX6_digest 181 = .ok (.invokevirtual 176, 3) := by decide +kernel
theorem dX6_digest_184 : decode cX6_digest 184 = .ok (.invokestatic 236, 3) := by decide +kernel
theorem dX6_digest_187 : decode cX6_digest 187 = .ok (.lstore_n 1, 1) := by decide +kernel
theorem dX6_digest_188 : decode cX6_digest 188 = .ok (.iinc 4 1, 3) := by decide +kernel
theorem dX6_digest_191 : decode cX6_digest 191 = .ok (.goto (-27), 3) := by decide +kernel
theorem dX6_digest_194 : decode cX6_digest 194 = .ok (.lload_n 1, 1) := by decide +kernel
theorem dX6_digest_195 : decode cX6_digest 195 = .ok (.aload_n 0, 1) := by decide +kernel
theorem dX6_digest_196 : decode cX6_digest 196 = .ok (.getfield 41, 3) := by decide +kernel
theorem dX6_digest_199 : decode cX6_digest 199 = .ok (.getfield 226, 3) := by decide +kernel
theorem dX6_digest_202 : decode cX6_digest 202 = .ok (.invokestatic 236, 3) := by decide +kernel
theorem dX6_digest_205 : decode cX6_digest 205 = .ok (.lreturn, 1) := by decide +kernel
theorem dX6_hashed_0 : decode cX6_hashed 0 = .ok (.ldc2_w 240, 3) := by decide +kernel
theorem dX6_hashed_3 : decode cX6_hashed 3 = .ok (.lload_n 0, 1) := by decide +kernel
theorem dX6_hashed_4 : decode cX6_hashed 4 = .ok (.lmul, 1) := by decide +kernel
theorem dX6_hashed_5 : decode cX6_hashed 5 = .ok (.iload_n 2, 1) := by decide +kernel
theorem dX6_hashed_6 : decode cX6_hashed 6 = .ok (.i2l, 1) := by decide +kernel
theorem dX6_hashed_7 : decode cX6_hashed 7 = .ok (.ladd, 1) := by decide +kernel
theorem dX6_hashed_8 : decode cX6_hashed 8 = .ok (.lreturn, 1) := by decide +kernel
theorem dX6_within_0 : decode cX6_within 0 = .ok (.iload_n 0, 1) := by decide +kernel
theorem dX6_within_1 : decode cX6_within 1 = .ok (.iload_n 1, 1) := by decide +kernel
theorem dX6_within_2 : decode cX6_within 2 = .ok (.if_icmp .lt 12, 3) := by decide +kernel
theorem dX6_within_5 : decode cX6_within 5 = .ok (.iload_n 0, 1) := by decide +kernel
theorem dX6_within_6 : decode cX6_within 6 = .ok (.iload_n 2, 1) := by decide +kernel
theorem dX6_within_7 : decode cX6_within 7 = .ok (.if_icmp .gt 7, 3) := by decide +kernel
theorem dX6_within_10 : decode cX6_within 10 = .ok (.iconst 1, 1) := by decide +kernel
theorem dX6_within_11 : decode cX6_within 11 = .ok (.goto 4, 3) := by decide +kernel
theorem dX6_within_14 : decode cX6_within 14 = .ok (.iconst 0, 1) := by decide +kernel
theorem dX6_within_15 : decode cX6_within 15 = .ok (.ireturn, 1) := by decide +kernel
set_option maxRecDepth 20000 in
theorem ggX6_isSetting_X6_within : GoodIn wsX6_isSetting wsX6_within := goodIn_r _ [4] (by decide +kernel) (by decide +kernel)
set_option maxRecDepth 20000 in
theorem gX6_isSetting_X6_within : GoodIn wsX6_isSetting (va_wsS RX6 52 yX6_within wsX6_within) := goodIn_app (goodIn_of _ (by decide +kernel)) ggX6_isSetting_X6_within
theorem dX6_isSetting_0 : decode cX6_isSetting 0 = .ok (.iload_n 0, 1) := by decide +kernel
theorem dX6_isSetting_1 : decode cX6_isSetting 1 = .ok (.tableswitch 54 0 3 #[31, 39, 39, 47], 31) := by decide +kernel
theorem dX6_isSetting_32 : decode cX6_isSetting 32 = .ok (.iload_n 1, 1) := by decide +kernel
theorem dX6_isSetting_33 : decode cX6_isSetting 33 = .ok (.iconst 1, 1) := by decide +kernel
theorem dX6_isSetting_34 : decode cX6_isSetting 34 = .ok (.bipush 8, 2) := by decide +kernel
theorem dX6_isSetting_36 : decode cX6_isSetting 36 = .ok (.invokestatic 52, 3) := by decide +kernel
theorem dX6_isSetting_39 : decode cX6_isSetting 39 = .ok (.ireturn, 1) := by decide +kernel
theorem dX6_isSetting_40 : decode cX6_isSetting 40 = .ok (.iload_n 1, 1) := by decide +kernel
theorem dX6_isSetting_41 : decode cX6_isSetting 41 = .ok (.iconst 0, 1) := by decide +kernel
theorem dX6_isSetting_42 : decode cX6_isSetting 42 = .ok (.bipush 100, 2) := by decide +kernel
theorem dX6_isSetting_44 : decode cX6_isSetting 44 = .ok (.invokestatic 52, 3) := by decide +kernel
theorem dX6_isSetting_47 : decode cX6_isSetting 47 = .ok (.ireturn, 1) := by decide +kernel
theorem dX6_isSetting_48 : decode cX6_isSetting 48 = .ok (.iload_n 1, 1) := by decide +kernel
theorem dX6_isSetting_49 : decode cX6_isSetting 49 = .ok (.iconst 1, 1) := by decide +kernel
theorem dX6_isSetting_50 : decode cX6_isSetting 50 = .ok (.iconst 5, 1) := by decide +kernel
theorem dX6_isSetting_51 : decode cX6_isSetting 51 = .ok (.invokestatic 52, 3) := by decide +kernel
theorem dX6_isSetting_54 : decode cX6_isSetting 54 = .ok (.ireturn, 1) := by decide +kernel
theorem dX6_isSetting_55 : decode cX6_isSetting 55 = .ok (.iconst 0, 1) := by decide +kernel
theorem dX6_isSetting_56 : decode cX6_isSetting 56 = .ok (.ireturn, 1) := by decide +kernel
set_option maxRecDepth 20000 in
theorem ggX6_trappedInTrial_X1_copyFrom : GoodIn wsX6_trappedInTrial wsX1_copyFrom := goodIn_r _ [8, 9, 10, 11, 12, 13, 14, 15, 16, 17, 18, 19, 20, 21, 22, 23, 24, 25, 26, 27, 28, 29, 30, 31, 148, 149, 150, 151, 152, 153, 154, 155, 156, 157, 158, 159, 160, 161] (by decide +kernel) (by decide +kernel)
set_option maxRecDepth 20000 in
theorem gX6_trappedInTrial_X1_copyFrom : GoodIn wsX6_trappedInTrial (wsV RX6 186 RX1 yX1_copyFrom wsX1_copyFrom) := goodIn_app (goodIn_of _ (by decide +kernel)) ggX6_trappedInTrial_X1_copyFrom
set_option maxRecDepth 20000 in
theorem ggX6_trappedInTrial_X1_putFence : GoodIn wsX6_trappedInTrial wsX1_putFence := goodIn_r _ [35, 18, 19, 36, 37, 38, 25, 39, 27, 148, 149, 150, 151, 152, 153, 154, 155, 156, 157, 158, 159, 160, 161] (by decide +kernel) (by decide +kernel)
set_option maxRecDepth 20000 in
theorem gX6_trappedInTrial_X1_putFence : GoodIn wsX6_trappedInTrial (wsV RX6 111 RX1 yX1_putFence wsX1_putFence) := goodIn_app (goodIn_of _ (by decide +kernel)) ggX6_trappedInTrial_X1_putFence
set_option maxRecDepth 20000 in
theorem ggX6_trappedInTrial_X5_blow : GoodIn wsX6_trappedInTrial wsX5_blow := goodIn_r _ [44, 45, 46, 47, 48, 7, 49, 9, 10, 50, 51, 52, 53, 54, 12, 55, 56, 57, 58, 59, 60, 43, 61, 62, 63, 29, 30, 25, 31, 27, 64, 65, 66, 67, 18, 68, 69, 70, 71, 72, 15, 73, 74, 75, 76, 11, 77, 78, 79, 80, 81, 82, 83, 84, 85, 86, 87, 88, 89, 90, 91, 92, 93, 94, 95, 96, 97, 98, 99, 100, 101, 102, 103, 104, 105, 106, 107, 108, 109, 110, 111, 112, 113, 114, 115, 116, 117, 118, 19, 119, 120, 121, 122, 123, 124, 125, 126, 127, 128, 129, 130, 131, 132, 133, 134, 135, 37, 38, 39, 162, 163, 148, 149, 150, 151, 152, 153, 154, 155, 156, 157, 158, 159, 160, 161] (by decide +kernel) (by decide +kernel)
set_option maxRecDepth 20000 in
theorem gX6_trappedInTrial_X5_blow : GoodIn wsX6_trappedInTrial (wsV RX6 137 RX5 yX5_blow wsX5_blow) := goodIn_app (goodIn_of _ (by decide +kernel)) ggX6_trappedInTrial_X5_blow
set_option maxRecDepth 20000 in
theorem ggX6_trappedInTrial_X1_trappedBy : GoodIn wsX6_trappedInTrial wsX1_trappedBy := goodIn_r _ [139, 19, 140, 65, 66, 7, 67, 18, 68, 29, 30, 25, 31, 27, 148, 149, 150, 151, 152, 153, 154, 155, 156, 157, 158, 159, 160, 161] (by decide +kernel) (by decide +kernel)
set_option maxRecDepth 20000 in
theorem gX6_trappedInTrial_X1_trappedBy : GoodIn wsX6_trappedInTrial (wsV RX6 108 RX1 yX1_trappedBy wsX1_trappedBy) := goodIn_app (goodIn_of _ (by decide +kernel)) ggX6_trappedInTrial_X1_trappedBy
theorem dX6_trappedInTrial_0 : decode cX6_trappedInTrial 0 = .ok (.aload_n 0, 1) := by decide +kernel
theorem dX6_trappedInTrial_1 : decode cX6_trappedInTrial 1 = .ok (.getfield 25, 3) := by decide +kernel
theorem dX6_trappedInTrial_4 : decode cX6_trappedInTrial 4 = .ok (.aload_n 0, 1) := by decide +kernel
theorem dX6_trappedInTrial_5 : decode cX6_trappedInTrial 5 = .ok (.getfield 10, 3) := by decide +kernel
theorem dX6_trappedInTrial_8 : decode cX6_trappedInTrial 8 = .ok (.invokevirtual 186, 3) := by decide +kernel
theorem dX6_trappedInTrial_11 : decode cX6_trappedInTrial 11 = .ok (.aload_n 0, 1) := by decide +kernel
theorem dX6_trappedInTrial_12 : decode cX6_trappedInTrial 12 = .ok (.getfield 25, 3) := by decide +kernel
theorem dX6_trappedInTrial_15 : decode cX6_trappedInTrial 15 = .ok (.iload_n 1, 1) := by decide +kernel
theorem dX6_trappedInTrial_16 : decode cX6_trappedInTrial 16 = .ok (.bipush 50, 2) := by decide +kernel
theorem dX6_trappedInTrial_18 : decode cX6_trappedInTrial 18 = .ok (.invokevirtual 111, 3) := by decide +kernel
theorem dX6_trappedInTrial_21 : decode cX6_trappedInTrial 21 = .ok (.aload_n 0, 1) := by decide +kernel
theorem dX6_trappedInTrial_22 : decode cX6_trappedInTrial 22 = .ok (.getfield 28, 3) := by decide +kernel
theorem dX6_trappedInTrial_25 : decode cX6_trappedInTrial 25 = .ok (.iload_n 2, 1) := by decide +kernel
theorem dX6_trappedInTrial_26 : decode cX6_trappedInTrial 26 = .ok (.invokevirtual 137, 3) := by decide +kernel
theorem dX6_trappedInTrial_29 : decode cX6_trappedInTrial 29 = .ok (.pop, 1) := by decide +kernel
theorem dX6_trappedInTrial_30 : decode cX6_trappedInTrial 30 = .ok (.aload_n 0, 1) := by decide +kernel
theorem dX6_trappedInTrial_31 : decode cX6_trappedInTrial 31 = .ok (.getfield 25, 3) := by decide +kernel
theorem dX6_trappedInTrial_34 : decode cX6_trappedInTrial 34 = .ok (.iload_n 1, 1) := by decide +kernel
theorem dX6_trappedInTrial_35 : decode cX6_trappedInTrial 35 = .ok (.invokevirtual 108, 3) := by decide +kernel
theorem dX6_trappedInTrial_38 : decode cX6_trappedInTrial 38 = .ok (.ireturn, 1) := by decide +kernel
