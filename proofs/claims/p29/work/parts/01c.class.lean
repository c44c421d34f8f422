set_option maxRecDepth 20000 in
theorem ggX0_init_X4_init : GoodIn wsX0_init wsX4_init := goodIn_r _ [13, 14, 2, 3, 15, 16, 17] (by decide +kernel) (by decide +kernel)
set_option maxRecDepth 20000 in
theorem gX0_init_X4_init : GoodIn wsX0_init (wsX4_init) := ggX0_init_X4_init
theorem dX0_init_0 : decode cX0_init 0 = .ok (.aload_n 0, 1) := by decide +kernel
theorem dX0_init_1 : decode cX0_init 1 = .ok (.invokespecial 3, 3) := by decide +kernel
theorem dX0_init_4 : decode cX0_init 4 = .ok (.aload_n 0, 1) := by decide +kernel
theorem dX0_init_5 : decode cX0_init 5 = .ok (.new 9, 3) := by decide +kernel
theorem dX0_init_8 : decode cX0_init 8 = .ok (.dup, 1) := by decide +kernel
theorem dX0_init_9 : decode cX0_init 9 = .ok (.sipush 192, 3) := by decide +kernel
theorem dX0_init_12 : decode cX0_init 12 = .ok (.invokespecial 11, 3) := by decide +kernel
theorem dX0_init_15 : decode cX0_init 15 = .ok (.putfield 14, 3) := by decide +kernel
theorem dX0_init_18 : decode cX0_init 18 = .ok (.aload_n 0, 1) := by decide +kernel
theorem dX0_init_19 : decode cX0_init 19 = .ok (.new 9, 3) := by decide +kernel
theorem dX0_init_22 : decode cX0_init 22 = .ok (.dup, 1) := by decide +kernel
theorem dX0_init_23 : decode cX0_init 23 = .ok (.sipush 193, 3) := by decide +kernel
theorem dX0_init_26 : decode cX0_init 26 = .ok (.invokespecial 11, 3) := by decide +kernel
theorem dX0_init_29 : decode cX0_init 29 = .ok (.putfield 20, 3) := by decide +kernel
theorem dX0_init_32 : decode cX0_init 32 = .ok (.aload_n 0, 1) := by decide +kernel
theorem dX0_init_33 : decode cX0_init 33 = .ok (.new 9, 3) := by decide +kernel
theorem dX0_init_36 : decode cX0_init 36 = .ok (.dup, 1) := by decide +kernel
theorem dX0_init_37 : decode cX0_init 37 = .ok (.sipush 193, 3) := by decide +kernel
theorem dX0_init_40 : decode cX0_init 40 = .ok (.invokespecial 11, 3) := by decide +kernel
theorem dX0_init_43 : decode cX0_init 43 = .ok (.putfield 23, 3) := by decide +kernel
theorem dX0_init_46 : decode cX0_init 46 = .ok (.aload_n 0, 1) := by decide +kernel
theorem dX0_init_47 : decode cX0_init 47 = .ok (.new 9, 3) := by decide +kernel
theorem dX0_init_50 : decode cX0_init 50 = .ok (.dup, 1) := by decide +kernel
theorem dX0_init_51 : decode cX0_init 51 = .ok (.sipush 192, 3) := by decide +kernel
theorem dX0_init_54 : decode cX0_init 54 = .ok (.invokespecial 11, 3) := by decide +kernel
theorem dX0_init_57 : decode cX0_init 57 = .ok (.putfield 26, 3) := by decide +kernel
theorem dX0_init_60 : decode cX0_init 60 = .ok (.return_, 1) := by decide +kernel
set_option maxRecDepth 20000 in
theorem ggX0_find_X4_fill : GoodIn wsX0_find wsX4_fill := goodIn_r _ [9, 10, 58] (by decide +kernel) (by decide +kernel)
set_option maxRecDepth 20000 in
theorem gX0_find_X4_fill : GoodIn wsX0_find (wsV RX0 29 RX4 yX4_fill wsX4_fill) := goodIn_app (goodIn_of _ (by decide +kernel)) ggX0_find_X4_fill
set_option maxRecDepth 20000 in
theorem ggX0_find_X1_cells : GoodIn wsX0_find wsX1_cells := goodIn_r _ [15, 16, 17, 45, 46, 47, 48, 49, 50, 51, 52, 53, 54, 55, 56, 57] (by decide +kernel) (by decide +kernel)
set_option maxRecDepth 20000 in
theorem gX0_find_X1_cells : GoodIn wsX0_find (wsV RX0 36 RX1 yX1_cells wsX1_cells) := goodIn_app (goodIn_of _ (by decide +kernel)) ggX0_find_X1_cells
set_option maxRecDepth 20000 in
theorem ggX0_find_X4_at : GoodIn wsX0_find wsX4_at := goodIn_r _ [21, 10, 58] (by decide +kernel) (by decide +kernel)
set_option maxRecDepth 20000 in
theorem gX0_find_X4_at : GoodIn wsX0_find (wsV RX0 45 RX4 yX4_at wsX4_at) := goodIn_app (goodIn_of _ (by decide +kernel)) ggX0_find_X4_at
set_option maxRecDepth 20000 in
theorem ggX0_find_X0_spread : GoodIn wsX0_find wsX0_spread := goodIn_r _ [26, 1, 4, 27, 2, 3, 28, 29, 30, 8, 31, 10, 18, 19, 20, 21, 32, 33, 34, 35, 36, 37, 38, 14, 39, 17, 16, 40, 41, 42, 43, 44, 45, 46, 47, 48, 49, 50, 51, 52, 53, 54, 55, 56, 57, 58] (by decide +kernel) (by decide +kernel)
set_option maxRecDepth 20000 in
theorem gX0_find_X0_spread : GoodIn wsX0_find (wsV RX0 49 RX0 yX0_spread wsX0_spread) := goodIn_app (goodIn_of _ (by decide +kernel)) ggX0_find_X0_spread
theorem dX0_find_0 : decode cX0_find 0 = .ok (.aload_n 0, 1) := by decide +kernel
theorem dX0_find_1 : decode cX0_find 1 = .ok (.getfield 14, 3) := by decide +kernel
theorem dX0_find_4 : decode cX0_find 4 = .ok (.iconst 0, 1) := by decide +kernel
theorem dX0_find_5 : decode cX0_find 5 = .ok (.invokevirtual 29, 3) := by decide +kernel
theorem dX0_find_8 : decode cX0_find 8 = .ok (.aload_n 0, 1) := by decide +kernel
theorem dX0_find_9 : decode cX0_find 9 = .ok (.getfield 20, 3) := by decide +kernel
theorem dX0_find_12 : decode cX0_find 12 = .ok (.iconst 0, 1) := by decide +kernel
theorem dX0_find_13 : decode cX0_find 13 = .ok (.invokevirtual 29, 3) := by decide +kernel
theorem dX0_find_16 : decode cX0_find 16 = .ok (.aload_n 0, 1) := by decide +kernel
theorem dX0_find_17 : decode cX0_find 17 = .ok (.getfield 23, 3) := by decide +kernel
theorem dX0_find_20 : decode cX0_find 20 = .ok (.iconst 0, 1) := by decide +kernel
theorem dX0_find_21 : decode cX0_find 21 = .ok (.invokevirtual 29, 3) := by decide +kernel
theorem dX0_find_24 : decode cX0_find 24 = .ok (.aload_n 0, 1) := by decide +kernel
theorem dX0_find_25 : decode cX0_find 25 = .ok (.iconst 0, 1) := by decide +kernel
theorem dX0_find_26 : decode cX0_find 26 = .ok (.putfield 32, 3) := by decide +kernel
theorem dX0_find_29 : decode cX0_find 29 = .ok (.aload_n 1, 1) := by decide +kernel
theorem dX0_find_30 : decode cX0_find 30 = .ok (.invokevirtual 36, 3) := by decide +kernel
theorem dX0_find_33 : decode cX0_find 33 = .ok (.istore_n 3, 1) := by decide +kernel
theorem dX0_find_34 : decode cX0_find 34 = .ok (.iconst 0, 1) := by decide +kernel
theorem dX0_find_35 : decode cX0_find 35 = .ok (.istore 4, 2) := by decide +kernel
theorem dX0_find_37 : decode cX0_find 37 = .ok (.iload 4, 2) := by decide +kernel
theorem dX0_find_39 : decode cX0_find 39 = .ok (.iload_n 3, 1) := by decide +kernel
theorem dX0_find_40 : decode cX0_find 40 = .ok (.if_icmp .ge 52, 3) := by decide +kernel
theorem dX0_find_43 : decode cX0_find 43 = .ok (.aload_n 1, 1) := by decide +kernel
theorem dX0_find_44 : decode cX0_find 44 = .ok (.getfield 42, 3) := by decide +kernel
theorem dX0_find_47 : decode cX0_find 47 = .ok (.iload 4, 2) := by decide +kernel
theorem dX0_find_49 : decode cX0_find 49 = .ok (.invokevirtual 45, 3) := by decide +kernel
theorem dX0_find_52 : decode cX0_find 52 = .ok (.iload_n 2, 1) := by decide +kernel
theorem dX0_find_53 : decode cX0_find 53 = .ok (.if_icmp .lt 33, 3) := by decide +kernel
theorem dX0_find_56 : decode cX0_find 56 = .ok (.aload_n 0, 1) := by decide +kernel
theorem dX0_find_57 : decode cX0_find 57 = .ok (.getfield 14, 3) := by decide +kernel
theorem dX0_find_60 : decode cX0_find 60 = .ok (.iload 4, 2) := by decide +kernel
theorem dX0_find_62 : decode cX0_find 62 = .ok (.invokevirtual 45, 3) := by decide +kernel
theorem dX0_find_65 : decode cX0_find 65 = .ok (.ifCond .ne 21, 3) := by decide +kernel
theorem dX0_find_68 : decode cX0_find 68 = .ok (.aload_n 0, 1) := by decide +kernel
theorem dX0_find_69 : decode cX0_find 69 = .ok (.dup, 1) := by decide +kernel
theorem dX0_find_70 : decode cX0_find 70 = .ok (.getfield 32, 3) := by decide +kernel
theorem dX0_find_73 : decode cX0_find 73 = .ok (.iconst 1, 1) := by decide +kernel
theorem dX0_find_74 : decode cX0_find 74 = .ok (.iadd, 1) := by decide +kernel
theorem dX0_find_75 : decode cX0_find 75 = .ok (.putfield 32, 3) := by decide +kernel
theorem dX0_find_78 : decode cX0_find 78 = .ok (.aload_n 0, 1) := by decide +kernel
theorem dX0_find_79 : decode cX0_find 79 = .ok (.aload_n 1, 1) := by decide +kernel
theorem dX0_find_80 : decode cX0_find 80 = .ok (.iload 4, 2) := by decide +kernel
theorem dX0_find_82 : decode cX0_find 82 = .ok (.iload_n 2, 1) := by decide +kernel
theorem dX0_find_83 : decode cX0_find 83 = .ok (.invokevirtual 49, 3) := by decide +kernel
theorem dX0_find_86 : decode cX0_find 86 = .ok (.iinc 4 1, 3) := by decide +kernel
theorem dX0_find_89 : decode cX0_find 89 = .ok (.goto (-52), 3) := by decide +kernel
theorem dX0_find_92 : decode cX0_find 92 = .ok (.aload_n 0, 1) := by decide +kernel
theorem dX0_find_93 : decode cX0_find 93 = .ok (.getfield 32, 3) := by decide +kernel
theorem dX0_find_96 : decode cX0_find 96 = .ok (.ireturn, 1) := by decide +kernel
set_option maxRecDepth 20000 in
theorem ggX0_spread_X4_put : GoodIn wsX0_spread wsX4_put := goodIn_r _ [10, 11, 45] (by decide +kernel) (by decide +kernel)
set_option maxRecDepth 20000 in
theorem gX0_spread_X4_put : GoodIn wsX0_spread (wsV RX0 53 RX4 yX4_put wsX4_put) := goodIn_app (goodIn_of _ (by decide +kernel)) ggX0_spread_X4_put
set_option maxRecDepth 20000 in
theorem ggX0_spread_X4_at : GoodIn wsX0_spread wsX4_at := goodIn_r _ [15, 11, 45] (by decide +kernel) (by decide +kernel)
set_option maxRecDepth 20000 in
theorem gX0_spread_X4_at : GoodIn wsX0_spread (wsV RX0 45 RX4 yX4_at wsX4_at) := goodIn_app (goodIn_of _ (by decide +kernel)) ggX0_spread_X4_at
set_option maxRecDepth 20000 in
theorem ggX0_spread_X4_add : GoodIn wsX0_spread wsX4_add := goodIn_r _ [19, 11, 45] (by decide +kernel) (by decide +kernel)
set_option maxRecDepth 20000 in
theorem gX0_spread_X4_add : GoodIn wsX0_spread (wsV RX0 57 RX4 yX4_add wsX4_add) := goodIn_app (goodIn_of _ (by decide +kernel)) ggX0_spread_X4_add
set_option maxRecDepth 20000 in
theorem ggX0_spread_X1_neighbor : GoodIn wsX0_spread wsX1_neighbor := goodIn_r _ [24, 25, 26, 32, 33, 34, 35, 36, 37, 38, 39, 40, 41, 42, 43, 44] (by decide +kernel) (by decide +kernel)
set_option maxRecDepth 20000 in
theorem gX0_spread_X1_neighbor : GoodIn wsX0_spread (wsV RX0 60 RX1 yX1_neighbor wsX1_neighbor) := goodIn_app (goodIn_of _ (by decide +kernel)) ggX0_spread_X1_neighbor
theorem dX0_spread_0 : decode cX0_spread 0 = .ok (.aload_n 0, 1) := by decide +kernel
theorem dX0_spread_1 : decode cX0_spread 1 = .ok (.getfield 14, 3) := by decide +kernel
theorem dX0_spread_4 : decode cX0_spread 4 = .ok (.iload_n 2, 1) := by decide +kernel
theorem dX0_spread_5 : decode cX0_spread 5 = .ok (.aload_n 0, 1) := by decide +kernel
theorem dX0_spread_6 : decode cX0_spread 6 = .ok (.getfield 32, 3) := by decide +kernel
theorem dX0_spread_9 : decode cX0_spread 9 = .ok (.invokevirtual 53, 3) := by decide +kernel
theorem dX0_spread_12 : decode cX0_spread 12 = .ok (.aload_n 0, 1) := by decide +kernel
theorem dX0_spread_13 : decode cX0_spread 13 = .ok (.getfield 26, 3) := by decide +kernel
theorem dX0_spread_16 : decode cX0_spread 16 = .ok (.iconst 0, 1) := by decide +kernel
theorem dX0_spread_17 : decode cX0_spread 17 = .ok (.iload_n 2, 1) := by decide +kernel
theorem dX0_spread_18 : decode cX0_spread 18 = .ok (.invokevirtual 53, 3) := by decide +kernel
theorem dX0_spread_21 : decode cX0_spread 21 = .ok (.iconst 1, 1) := by decide +kernel
theorem dX0_spread_22 : decode cX0_spread 22 = .ok (.istore 4, 2) := by decide +kernel
theorem dX0_spread_24 : decode cX0_spread 24 = .ok (.iconst 0, 1) := by decide +kernel
theorem dX0_spread_25 : decode cX0_spread 25 = .ok (.istore 5, 2) := by decide +kernel
theorem dX0_spread_27 : decode cX0_spread 27 = .ok (.iload 5, 2) := by decide +kernel
theorem dX0_spread_29 : decode cX0_spread 29 = .ok (.iload 4, 2) := by decide +kernel
theorem dX0_spread_31 : decode cX0_spread 31 = .ok (.if_icmp .ge 137, 3) := by decide +kernel
theorem dX0_spread_34 : decode cX0_spread 34 = .ok (.iload 5, 2) := by decide +kernel
theorem dX0_spread_36 : decode cX0_spread 36 = .ok (.sipush 192, 3) := by decide +kernel
theorem dX0_spread_39 : decode cX0_spread 39 = .ok (.if_icmp .ge 129, 3) := by decide +kernel
theorem dX0_spread_42 : decode cX0_spread 42 = .ok (.aload_n 0, 1) := by decide +kernel
theorem dX0_spread_43 : decode cX0_spread 43 = .ok (.getfield 26, 3) := by decide +kernel
theorem dX0_spread_46 : decode cX0_spread 46 = .ok (.iload 5, 2) := by decide +kernel
theorem dX0_spread_48 : decode cX0_spread 48 = .ok (.invokevirtual 45, 3) := by decide +kernel
theorem dX0_spread_51 : decode cX0_spread 51 = .ok (.istore 6, 2) := by decide +kernel
theorem dX0_spread_53 : decode cX0_spread 53 = .ok (.aload_n 0, 1) := by decide +kernel
theorem dX0_spread_54 : decode cX0_spread 54 = .ok (.getfield 20, 3) := by decide +kernel
theorem dX0_spread_57 : decode cX0_spread 57 = .ok (.aload_n 0, 1) := by decide +kernel
theorem dX0_spread_58 : decode cX0_spread 58 = .ok (.getfield 32, 3) := by decide +kernel
theorem dX0_spread_61 : decode cX0_spread 61 = .ok (.iconst 1, 1) := by decide +kernel
theorem dX0_spread_62 : decode cX0_spread 62 = .ok (.invokevirtual 57, 3) := by decide +kernel
theorem dX0_spread_65 : decode cX0_spread 65 = .ok (.aload_n 0, 1) := by decide +kernel
theorem dX0_spread_66 : decode cX0_spread 66 = .ok (.getfield 23, 3) := by decide +kernel
theorem dX0_spread_69 : decode cX0_spread 69 = .ok (.aload_n 0, 1) := by decide +kernel
theorem dX0_spread_70 : decode cX0_spread 70 = .ok (.getfield 32, 3) := by decide +kernel
theorem dX0_spread_73 : decode cX0_spread 73 = .ok (.aload_n 1, 1) := by decide +kernel
theorem dX0_spread_74 : decode cX0_spread 74 = .ok (.getfield 42, 3) := by decide +kernel
theorem dX0_spread_77 : decode cX0_spread 77 = .ok (.iload 6, 2) := by decide +kernel
theorem dX0_spread_79 : decode cX0_spread 79 = .ok (.invokevirtual 45, 3) := by decide +kernel
theorem dX0_spread_82 : decode cX0_spread 82 = .ok (.invokevirtual 57, 3) := by decide +kernel
theorem dX0_spread_85 : decode cX0_spread 85 = .ok (.iconst 0, 1) := by decide +kernel
theorem dX0_spread_86 : decode cX0_spread 86 = .ok (.istore 7, 2) := by decide +kernel
theorem dX0_spread_88 : decode cX0_spread 88 = .ok (.iload 7, 2) := by decide +kernel
theorem dX0_spread_90 : decode cX0_spread 90 = .ok (.iconst 4, 1) := by decide +kernel
theorem dX0_spread_91 : decode cX0_spread 91 = .ok (.if_icmp .ge 71, 3) := by decide +kernel
theorem dX0_spread_94 : decode cX0_spread 94 = .ok (.aload_n 1, 1) := by decide +kernel
theorem dX0_spread_95 : decode cX0_spread 95 = .ok (.iload 6, 2) := by decide +kernel
theorem dX0_spread_97 : decode cX0_spread 97 = .ok (.iload 7, 2) := by decide +kernel
theorem dX0_spread_99 : decode cX0_spread 99 = .ok (.invokevirtual 60, 3) := by decide +kernel
theorem dX0_spread_102 : decode cX0_spread 102 = .ok (.istore 8, 2) := by decide +kernel
theorem dX0_spread_104 : decode cX0_spread 104 = .ok (.aload_n 1, 1) := by decide +kernel
theorem dX0_spread_105 : decode cX0_spread 105 = .ok (.getfield 42, 3) := by decide +kernel
theorem dX0_spread_108 : decode cX0_spread 108 = .ok (.iload 8, 2) := by decide +kernel
theorem dX0_spread_110 : decode cX0_spread 110 = .ok (.invokevirtual 45, 3) := by decide +kernel
theorem dX0_spread_113 : decode cX0_spread 113 = .ok (.iload_n 3, 1) := by decide +kernel
theorem dX0_spread_114 : decode cX0_spread 114 = .ok (.if_icmp .lt 42, 3) := by decide +kernel
theorem dX0_spread_117 : decode cX0_spread 117 = .ok (.aload_n 0, 1) := by decide +kernel
theorem dX0_spread_118 : decode cX0_spread 118 = .ok (.getfield 14, 3) := by decide +kernel
theorem dX0_spread_121 : decode cX0_spread 121 = .ok (.iload 8, 2) := by decide +kernel
theorem dX0_spread_123 : decode cX0_spread 123 = .ok (.invokevirtual 45, 3) := by decide +kernel
theorem dX0_spread_126 : decode cX0_spread 126 = .ok (.ifCond .ne 30, 3) := by decide +kernel
theorem dX0_spread_129 : decode cX0_spread 129 = .ok (.aload_n 0, 1) := by decide +kernel
theorem dX0_spread_130 : decode cX0_spread 130 = .ok (.getfield 14, 3) := by decide +kernel
theorem dX0_spread_133 : decode cX0_spread 133 = .ok (.iload 8, 2) := by decide +kernel
theorem dX0_spread_135 : decode cX0_spread 135 = .ok (.aload_n 0, 1) := by decide +kernel
theorem dX0_spread_136 : decode cX0_spread 136 = .ok (.getfield 32, 3) := by decide +kernel
theorem dX0_spread_139 : decode cX0_spread 139 = .ok (.invokevirtual 53, 3) := by decide +kernel
theorem dX0_spread_142 : decode cX0_spread 142 = .ok (.aload_n 0, 1) := by decide +kernel
theorem dX0_spread_143 : decode cX0_spread 143 = .ok (.getfield 26, 3) := by decide +kernel
theorem dX0_spread_146 : decode cX0_spread 146 = .ok (.iload 4, 2) := by decide +kernel
theorem dX0_spread_148 : decode cX0_spread 148 = .ok (.iload 8, 2) := by decide +kernel
theorem dX0_spread_150 : decode cX0_spread 150 = .ok (.invokevirtual 53, 3) := by decide +kernel
theorem dX0_spread_153 : decode cX0_spread 153 = .ok (.iinc 4 1, 3) := by decide +kernel
theorem dX0_spread_156 : decode cX0_spread 156 = .ok (.iinc 7 1, 3) := by decide +kernel
theorem dX0_spread_159 : decode cX0_spread 159 = .ok (.goto (-71), 3) := by decide +kernel
theorem dX0_spread_162 : decode cX0_spread 162 = .ok (.iinc 5 1, 3) := by decide +kernel
theorem dX0_spread_165 : decode cX0_spread 165 = .ok (.goto (-138), 3) := by decide +kernel
theorem dX0_spread_168 : decode cX0_spread 168 = .ok (.return_, 1) := by decide +kernel
set_option maxRecDepth 20000 in
theorem ggX0_mostSlabs_X4_at : GoodIn wsX0_mostSlabs wsX4_at := goodIn_r _ [11, 12, 18] (by decide +kernel) (by decide +kernel)
set_option maxRecDepth 20000 in
theorem gX0_mostSlabs_X4_at : GoodIn wsX0_mostSlabs (wsV RX0 45 RX4 yX4_at wsX4_at) := goodIn_app (goodIn_of _ (by decide +kernel)) ggX0_mostSlabs_X4_at
theorem dX0_mostSlabs_0 : decode cX0_mostSlabs 0 = .ok (.iconst 0, 1) := by decide +kernel
theorem dX0_mostSlabs_1 : decode cX0_mostSlabs 1 = .ok (.istore_n 1, 1) := by decide +kernel
theorem dX0_mostSlabs_2 : decode cX0_mostSlabs 2 = .ok (.iconst 1, 1) := by decide +kernel
theorem dX0_mostSlabs_3 : decode cX0_mostSlabs 3 = .ok (.istore_n 2, 1) := by decide +kernel
theorem dX0_mostSlabs_4 : decode cX0_mostSlabs 4 = .ok (.iload_n 2, 1) := by decide +kernel
theorem dX0_mostSlabs_5 : decode cX0_mostSlabs 5 = .ok (.aload_n 0, 1) := by decide +kernel
theorem dX0_mostSlabs_6 : decode cX0_mostSlabs 6 = .ok (.getfield 32, 3) := by decide +kernel
theorem dX0_mostSlabs_9 : decode cX0_mostSlabs 9 = .ok (.if_icmp .gt 22, 3) := by decide +kernel
theorem dX0_mostSlabs_12 : decode cX0_mostSlabs 12 = .ok (.iload_n 1, 1) := by decide +kernel
theorem dX0_mostSlabs_13 : decode cX0_mostSlabs 13 = .ok (.aload_n 0, 1) := by decide +kernel
theorem dX0_mostSlabs_14 : decode cX0_mostSlabs 14 = .ok (.getfield 23, 3) := by decide +kernel
theorem dX0_mostSlabs_17 : decode cX0_mostSlabs 17 = .ok (.iload_n 2, 1) := by decide +kernel
theorem dX0_mostSlabs_18 : decode cX0_mostSlabs 18 = .ok (.invokevirtual 45, 3) := by decide +kernel
theorem dX0_mostSlabs_21 : decode cX0_mostSlabs 21 = .ok (.invokestatic 64, 3) := by decide +kernel
theorem dX0_mostSlabs_24 : decode cX0_mostSlabs 24 = .ok (.istore_n 1, 1) := by decide +kernel
theorem dX0_mostSlabs_25 : decode cX0_mostSlabs 25 = .ok (.iinc 2 1, 3) := by decide +kernel
theorem dX0_mostSlabs_28 : decode cX0_mostSlabs 28 = .ok (.goto (-24), 3) := by decide +kernel
theorem dX0_mostSlabs_31 : decode cX0_mostSlabs 31 = .ok (.iload_n 1, 1) := by decide +kernel
theorem dX0_mostSlabs_32 : decode cX0_mostSlabs 32 = .ok (.ireturn, 1) := by decide +kernel
set_option maxRecDepth 20000 in
theorem ggX0_sizeAround_X4_at : GoodIn wsX0_sizeAround wsX4_at := goodIn_r _ [7, 8, 14] (by decide +kernel) (by decide +kernel)
set_option maxRecDepth 20000 in
theorem gX0_sizeAround_X4_at : GoodIn wsX0_sizeAround (wsV RX0 45 RX4 yX4_at wsX4_at) := goodIn_app (goodIn_of _ (by decide +kernel)) ggX0_sizeAround_X4_at
theorem dX0_sizeAround_0 : decode cX0_sizeAround 0 = .ok (.aload_n 0, 1) := by decide +kernel
theorem dX0_sizeAround_1 : decode cX0_sizeAround 1 = .ok (.getfield 20, 3) := by decide +kernel
theorem dX0_sizeAround_4 : decode cX0_sizeAround 4 = .ok (.aload_n 0, 1) := by decide +kernel
theorem dX0_sizeAround_5 : decode cX0_sizeAround 5 = .ok (.getfield 14, 3) := by decide +kernel
theorem dX0_sizeAround_8 : decode cX0_sizeAround 8 = .ok (.iload_n 1, 1) := by decide +kernel
theorem dX0_sizeAround_9 : decode cX0_sizeAround 9 = .ok (.invokevirtual 45, 3) := by decide +kernel
theorem dX0_sizeAround_12 : decode cX0_sizeAround 12 = .ok (.invokevirtual 45, 3) := by decide +kernel
theorem dX0_sizeAround_15 : decode cX0_sizeAround 15 = .ok (.ireturn, 1) := by decide +kernel
set_option maxRecDepth 20000 in
theorem ggX1_init_X4_init : GoodIn wsX1_init wsX4_init := goodIn_r _ [17, 18, 2, 3, 19, 20, 43] (by decide +kernel) (by decide +kernel)
set_option maxRecDepth 20000 in
theorem gX1_init_X4_init : GoodIn wsX1_init (wsX4_init) := ggX1_init_X4_init
set_option maxRecDepth 20000 in
theorem ggX1_init_X1_resetWeather : GoodIn wsX1_init wsX1_resetWeather := goodIn_r _ [25, 7, 26, 27, 28, 29, 30, 6, 31, 20, 44, 45, 46, 47, 48, 49, 50, 51, 52, 53, 54, 55, 56, 43] (by decide +kernel) (by decide +kernel)
set_option maxRecDepth 20000 in
theorem gX1_init_X1_resetWeather : GoodIn wsX1_init (wsV RX1 41 RX1 yX1_resetWeather wsX1_resetWeather) := goodIn_app (goodIn_of _ (by decide +kernel)) ggX1_init_X1_resetWeather
set_option maxRecDepth 20000 in
theorem ggX1_init_X1_layOut : GoodIn wsX1_init wsX1_layOut := goodIn_r _ [35, 36, 37, 38, 8, 9, 10, 11, 12, 13, 14, 39, 40, 41, 6, 42, 20, 44, 45, 46, 47, 48, 49, 50, 51, 52, 53, 54, 55, 56, 43] (by decide +kernel) (by decide +kernel)
set_option maxRecDepth 20000 in
theorem gX1_init_X1_layOut : GoodIn wsX1_init (wsV RX1 44 RX1 yX1_layOut wsX1_layOut) := goodIn_app (goodIn_of _ (by decide +kernel)) ggX1_init_X1_layOut
theorem dX1_init_0 : decode cX1_init 0 = .ok (.aload_n 0, 1) := by decide +kernel
theorem dX1_init_1 : decode cX1_init 1 = .ok (.invokespecial 3, 3) := by decide +kernel
theorem dX1_init_4 : decode cX1_init 4 = .ok (.aload_n 0, 1) := by decide +kernel
theorem dX1_init_5 : decode cX1_init 5 = .ok (.new 9, 3) := by decide +kernel
theorem dX1_init_8 : decode cX1_init 8 = .ok (.dup, 1) := by decide +kernel
theorem dX1_init_9 : decode cX1_init 9 = .ok (.iconst 4, 1) := by decide +kernel
theorem dX1_init_10 : decode cX1_init 10 = .ok (.invokespecial 11, 3) := by decide +kernel
theorem dX1_init_13 : decode cX1_init 13 = .ok (.putfield 14, 3) := by decide +kernel
theorem dX1_init_16 : decode cX1_init 16 = .ok (.aload_n 0, 1) := by decide +kernel
theorem dX1_init_17 : decode cX1_init 17 = .ok (.new 9, 3) := by decide +kernel
theorem dX1_init_20 : decode cX1_init 20 = .ok (.dup, 1) := by decide +kernel
theorem dX1_init_21 : decode cX1_init 21 = .ok (.sipush 192, 3) := by decide +kernel
theorem dX1_init_24 : decode cX1_init 24 = .ok (.invokespecial 11, 3) := by decide +kernel
theorem dX1_init_27 : decode cX1_init 27 = .ok (.putfield 20, 3) := by decide +kernel
theorem dX1_init_30 : decode cX1_init 30 = .ok (.aload_n 0, 1) := by decide +kernel
theorem dX1_init_31 : decode cX1_init 31 = .ok (.new 9, 3) := by decide +kernel
theorem dX1_init_34 : decode cX1_init 34 = .ok (.dup, 1) := by decide +kernel
theorem dX1_init_35 : decode cX1_init 35 = .ok (.sipush 192, 3) := by decide +kernel
theorem dX1_init_38 : decode cX1_init 38 = .ok (.invokespecial 11, 3) := by decide +kernel
theorem dX1_init_41 : decode cX1_init 41 = .ok (.putfield 23, 3) := by decide +kernel
theorem dX1_init_44 : decode cX1_init 44 = .ok (.aload_n 0, 1) := by decide +kernel
theorem dX1_init_45 : decode cX1_init 45 = .ok (.new 9, 3) := by decide +kernel
theorem dX1_init_48 : decode cX1_init 48 = .ok (.dup, 1) := by decide +kernel
theorem dX1_init_49 : decode cX1_init 49 = .ok (.sipush 192, 3) := by decide +kernel
theorem dX1_init_52 : decode cX1_init 52 = .ok (.invokespecial 11, 3) := by decide +kernel
theorem dX1_init_55 : decode cX1_init 55 = .ok (.putfield 26, 3) := by decide +kernel
theorem dX1_init_58 : decode cX1_init 58 = .ok (.aload_n 0, 1) := by decide +kernel
theorem dX1_init_59 : decode cX1_init 59 = .ok (.new 9, 3) := by decide +kernel
theorem dX1_init_62 : decode cX1_init 62 = .ok (.dup, 1) := by decide +kernel
theorem dX1_init_63 : decode cX1_init 63 = .ok (.sipush 192, 3) := by decide +kernel
theorem dX1_init_66 : decode cX1_init 66 = .ok (.invokespecial 11, 3) := by decide +kernel
theorem dX1_init_69 : decode cX1_init 69 = .ok (.putfield 29, 3) := by decide +kernel
theorem dX1_init_72 : decode cX1_init 72 = .ok (.aload_n 0, 1) := by decide +kernel
theorem dX1_init_73 : decode cX1_init 73 = .ok (.new 9, 3) := by decide +kernel
theorem dX1_init_76 : decode cX1_init 76 = .ok (.dup, 1) := by decide +kernel
theorem dX1_init_77 : decode cX1_init 77 = .ok (.sipush 192, 3) := by decide +kernel
theorem dX1_init_80 : decode cX1_init 80 = .ok (.invokespecial 11, 3) := by decide +kernel
theorem dX1_init_83 : decode cX1_init 83 = .ok (.putfield 32, 3) := by decide +kernel
theorem dX1_init_86 : decode cX1_init 86 = .ok (.aload_n 0, 1) := by decide +kernel
theorem dX1_init_87 : decode cX1_init 87 = .ok (.new 9, 3) := by decide +kernel
theorem dX1_init_90 : decode cX1_init 90 = .ok (.dup, 1) := by decide +kernel
theorem dX1_init_91 : decode cX1_init 91 = .ok (.bipush 12, 2) := by decide +kernel
theorem dX1_init_93 : decode cX1_init 93 = .ok (.invokespecial 11, 3) := by decide +kernel
theorem dX1_init_96 : decode cX1_init 96 = .ok (.putfield 35, 3) := by decide +kernel
theorem dX1_init_99 : decode cX1_init 99 = .ok (.aload_n 0, 1) := by decide +kernel
theorem dX1_init_100 : decode cX1_init 100 = .ok (.new 9, 3) := by decide +kernel
theorem dX1_init_103 : decode cX1_init 103 = .ok (.dup, 1) := by decide +kernel
theorem dX1_init_104 : decode cX1_init 104 = .ok (.iconst 4, 1) := by decide +kernel
theorem dX1_init_105 : decode cX1_init 105 = .ok (.invokespecial 11, 3) := by decide +kernel
theorem dX1_init_108 : decode cX1_init 108 = .ok (.putfield 38, 3) := by decide +kernel
theorem dX1_init_111 : decode cX1_init 111 = .ok (.aload_n 0, 1) := by decide +kernel
theorem dX1_init_112 : decode cX1_init 112 = .ok (.invokevirtual 41, 3) := by decide +kernel
theorem dX1_init_115 : decode cX1_init 115 = .ok (.aload_n 0, 1) := by decide +kernel
theorem dX1_init_116 : decode cX1_init 116 = .ok (.bipush 6, 2) := by decide +kernel
theorem dX1_init_118 : decode cX1_init 118 = .ok (.bipush 10, 2) := by decide +kernel
theorem dX1_init_120 : decode cX1_init 120 = .ok (.iconst 2, 1) := by decide +kernel
theorem dX1_init_121 : decode cX1_init 121 = .ok (.invokevirtual 44, 3) := by decide +kernel
theorem dX1_init_124 : decode cX1_init 124 = .ok (.return_, 1) := by decide +kernel
set_option maxRecDepth 20000 in
theorem ggX1_resetWeather_X4_put : GoodIn wsX1_resetWeather wsX4_put := goodIn_r _ [8, 9, 23] (by decide +kernel) (by decide +kernel)
set_option maxRecDepth 20000 in
theorem gX1_resetWeather_X4_put : GoodIn wsX1_resetWeather (wsV RX1 48 RX4 yX4_put wsX4_put) := goodIn_app (goodIn_of _ (by decide +kernel)) ggX1_resetWeather_X4_put
theorem dX1_resetWeather_0 : decode cX1_resetWeather 0 = .ok (.aload_n 0, 1) := by decide +kernel
theorem dX1_resetWeather_1 : decode cX1_resetWeather 1 = .ok (.getfield 14, 3) := by decide +kernel
theorem dX1_resetWeather_4 : decode cX1_resetWeather 4 = .ok (.iconst 0, 1) := by decide +kernel
theorem dX1_resetWeather_5 : decode cX1_resetWeather 5 = .ok (.iconst 3, 1) := by decide +kernel
theorem dX1_resetWeather_6 : decode cX1_resetWeather 6 = .ok (.invokevirtual 48, 3) := by decide +kernel
theorem dX1_resetWeather_9 : decode cX1_resetWeather 9 = .ok (.aload_n 0, 1) := by decide +kernel
theorem dX1_resetWeather_10 : decode cX1_resetWeather 10 = .ok (.getfield 14, 3) := by decide +kernel
theorem dX1_resetWeather_13 : decode cX1_resetWeather 13 = .ok (.iconst 1, 1) := by decide +kernel
theorem dX1_resetWeather_14 : decode cX1_resetWeather 14 = .ok (.bipush 60, 2) := by decide +kernel
theorem dX1_resetWeather_16 : decode cX1_resetWeather 16 = .ok (.invokevirtual 48, 3) := by decide +kernel
theorem dX1_resetWeather_19 : decode cX1_resetWeather 19 = .ok (.aload_n 0, 1) := by decide +kernel
theorem dX1_resetWeather_20 : decode cX1_resetWeather 20 = .ok (.getfield 14, 3) := by decide +kernel
theorem dX1_resetWeather_23 : decode cX1_resetWeather 23 = .ok (.iconst 2, 1) := by decide +kernel
theorem dX1_resetWeather_24 : decode cX1_resetWeather 24 = .ok (.bipush 40, 2) := by decide +kernel
theorem dX1_resetWeather_26 : decode cX1_resetWeather 26 = .ok (.invokevirtual 48, 3) := by decide +kernel
theorem dX1_resetWeather_29 : decode cX1_resetWeather 29 = .ok (.aload_n 0, 1) := by decide +kernel
theorem dX1_resetWeather_30 : decode cX1_resetWeather 30 = .ok (.getfield 14, 3) := by decide +kernel
theorem dX1_resetWeather_33 : decode cX1_resetWeather 33 = .ok (.iconst 3, 1) := by decide +kernel
theorem dX1_resetWeather_34 : decode cX1_resetWeather 34 = .ok (.iconst 2, 1) := by decide +kernel
theorem dX1_resetWeather_35 : decode cX1_resetWeather 35 = .ok (.invokevirtual 48, 3) := by decide +kernel
theorem dX1_resetWeather_38 : decode cX1_resetWeather 38 = .ok (.aload_n 0, 1) := by decide +kernel
theorem dX1_resetWeather_39 : decode cX1_resetWeather 39 = .ok (.iconst 0, 1) := by decide +kernel
theorem dX1_resetWeather_40 : decode cX1_resetWeather 40 = .ok (.putfield 52, 3) := by decide +kernel
theorem dX1_resetWeather_43 : decode cX1_resetWeather 43 = .ok (.aload_n 0, 1) := by decide +kernel
theorem dX1_resetWeather_44 : decode cX1_resetWeather 44 = .ok (.iconst 1, 1) := by decide +kernel
theorem dX1_resetWeather_45 : decode cX1_resetWeather 45 = .ok (.putfield 56, 3) := by decide +kernel
theorem dX1_resetWeather_48 : decode cX1_resetWeather 48 = .ok (.return_, 1) := by decide +kernel
set_option maxRecDepth 20000 in
theorem ggX1_layOut_X4_fill : GoodIn wsX1_layOut wsX4_fill := goodIn_r _ [15, 16, 30] (by decide +kernel) (by decide +kernel)
set_option maxRecDepth 20000 in
theorem gX1_layOut_X4_fill : GoodIn wsX1_layOut (wsV RX1 68 RX4 yX4_fill wsX4_fill) := goodIn_app (goodIn_of _ (by decide +kernel)) ggX1_layOut_X4_fill
theorem dX1_layOut_0 : decode cX1_layOut 0 = .ok (.aload_n 0, 1) := by decide +kernel
theorem dX1_layOut_1 : decode cX1_layOut 1 = .ok (.iload_n 1, 1) := by decide +kernel
theorem dX1_layOut_2 : decode cX1_layOut 2 = .ok (.putfield 59, 3) := by decide +kernel
theorem dX1_layOut_5 : decode cX1_layOut 5 = .ok (.aload_n 0, 1) := by decide +kernel
theorem dX1_layOut_6 : decode cX1_layOut 6 = .ok (.iload_n 2, 1) := by decide +kernel
theorem dX1_layOut_7 : decode cX1_layOut 7 = .ok (.putfield 62, 3) := by decide +kernel
theorem dX1_layOut_10 : decode cX1_layOut 10 = .ok (.aload_n 0, 1) := by decide +kernel
theorem dX1_layOut_11 : decode cX1_layOut 11 = .ok (.iconst 0, 1) := by decide +kernel
theorem dX1_layOut_12 : decode cX1_layOut 12 = .ok (.putfield 65, 3) := by decide +kernel
theorem dX1_layOut_15 : decode cX1_layOut 15 = .ok (.aload_n 0, 1) := by decide +kernel
theorem dX1_layOut_16 : decode cX1_layOut 16 = .ok (.getfield 20, 3) := by decide +kernel
theorem dX1_layOut_19 : decode cX1_layOut 19 = .ok (.iload_n 3, 1) := by decide +kernel
theorem dX1_layOut_20 : decode cX1_layOut 20 = .ok (.invokevirtual 68, 3) := by decide +kernel
theorem dX1_layOut_23 : decode cX1_layOut 23 = .ok (.aload_n 0, 1) := by decide +kernel
theorem dX1_layOut_24 : decode cX1_layOut 24 = .ok (.getfield 23, 3) := by decide +kernel
theorem dX1_layOut_27 : decode cX1_layOut 27 = .ok (.iload_n 3, 1) := by decide +kernel
theorem dX1_layOut_28 : decode cX1_layOut 28 = .ok (.invokevirtual 68, 3) := by decide +kernel
theorem dX1_layOut_31 : decode cX1_layOut 31 = .ok (.aload_n 0, 1) := by decide +kernel
theorem dX1_layOut_32 : decode cX1_layOut 32 = .ok (.getfield 26, 3) := by decide +kernel
theorem dX1_layOut_35 : decode cX1_layOut 35 = .ok (.iconst 0, 1) := by decide +kernel
theorem dX1_layOut_36 : decode cX1_layOut 36 = .ok (.invokevirtual 68, 3) := by decide +kernel
theorem dX1_layOut_39 : decode cX1_layOut 39 = .ok (.aload_n 0, 1) := by decide +kernel
theorem dX1_layOut_40 : decode cX1_layOut 40 = .ok (.getfield 29, 3) := by decide +kernel
theorem dX1_layOut_43 : decode cX1_layOut 43 = .ok (.iconst (-1), 1) := by decide +kernel
theorem dX1_layOut_44 : decode cX1_layOut 44 = .ok (.invokevirtual 68, 3) := by decide +kernel
theorem dX1_layOut_47 : decode cX1_layOut 47 = .ok (.aload_n 0, 1) := by decide +kernel
theorem dX1_layOut_48 : decode cX1_layOut 48 = .ok (.getfield 32, 3) := by decide +kernel
theorem dX1_layOut_51 : decode cX1_layOut 51 = .ok (.iconst 0, 1) := by decide +kernel
theorem dX1_layOut_52 : decode cX1_layOut 52 = .ok (.invokevirtual 68, 3) := by decide +kernel
theorem dX1_layOut_55 : decode cX1_layOut 55 = .ok (.aload_n 0, 1) := by decide +kernel
theorem dX1_layOut_56 : decode cX1_layOut 56 = .ok (.getfield 35, 3) := by decide +kernel
theorem dX1_layOut_59 : decode cX1_layOut 59 = .ok (.iconst 0, 1) := by decide +kernel
theorem dX1_layOut_60 : decode cX1_layOut 60 = .ok (.invokevirtual 68, 3) := by decide +kernel
theorem dX1_layOut_63 : decode cX1_layOut 63 = .ok (.aload_n 0, 1) := by decide +kernel
theorem dX1_layOut_64 : decode cX1_layOut 64 = .ok (.getfield 38, 3) := by decide +kernel
theorem dX1_layOut_67 : decode cX1_layOut 67 = .ok (.iconst (-1), 1) := by decide +kernel
theorem dX1_layOut_68 : decode cX1_layOut 68 = .ok (.invokevirtual 68, 3) := by decide +kernel
theorem dX1_layOut_71 : decode cX1_layOut 71 = .ok (.return_, 1) := by decide +kernel
set_option maxRecDepth 20000 in
theorem ggX1_copyFrom_X4_copyFrom : GoodIn wsX1_copyFrom wsX4_copyFrom := goodIn_r _ [18, 19, 20, 21, 22, 17, 23, 37] (by decide +kernel) (by decide +kernel)
set_option maxRecDepth 20000 in
theorem gX1_copyFrom_X4_copyFrom : GoodIn wsX1_copyFrom (wsV RX1 71 RX4 yX4_copyFrom wsX4_copyFrom) := goodIn_app (goodIn_of _ (by decide +kernel)) ggX1_copyFrom_X4_copyFrom
theorem dX1_copyFrom_0 : decode cX1_copyFrom 0 = .ok (.aload_n 0, 1) := by decide +kernel
theorem dX1_copyFrom_1 : decode cX1_copyFrom 1 = .ok (.aload_n 1, 1) := by decide +kernel
theorem dX1_copyFrom_2 : decode cX1_copyFrom 2 = .ok (.getfield 59, 3) := by decide +kernel
theorem dX1_copyFrom_5 : decode cX1_copyFrom 5 = .ok (.putfield 59, 3) := by decide +kernel
theorem dX1_copyFrom_8 : decode cX1_copyFrom 8 = .ok (.aload_n 0, 1) := by decide +kernel
theorem dX1_copyFrom_9 : decode cX1_copyFrom 9 = .ok (.aload_n 1, 1) := by decide +kernel
theorem dX1_copyFrom_10 : decode cX1_copyFrom 10 = .ok (.getfield 62, 3) := by decide +kernel
theorem dX1_copyFrom_13 : decode cX1_copyFrom 13 = .ok (.putfield 62, 3) := by decide +kernel
theorem dX1_copyFrom_16 : decode cX1_copyFrom 16 = .ok (.aload_n 0, 1) := by decide +kernel
theorem dX1_copyFrom_17 : decode cX1_copyFrom 17 = .ok (.aload_n 1, 1) := by decide +kernel
theorem dX1_copyFrom_18 : decode cX1_copyFrom 18 = .ok (.getfield 52, 3) := by decide +kernel
theorem dX1_copyFrom_21 : decode cX1_copyFrom 21 = .ok (.putfield 52, 3) := by decide +kernel
theorem dX1_copyFrom_24 : decode cX1_copyFrom 24 = .ok (.aload_n 0, 1) := by decide +kernel
theorem dX1_copyFrom_25 : decode cX1_copyFrom 25 = .ok (.aload_n 1, 1) := by decide +kernel
theorem dX1_copyFrom_26 : decode cX1_copyFrom 26 = .ok (.getfield 56, 3) := by decide +kernel
theorem dX1_copyFrom_29 : decode cX1_copyFrom 29 = .ok (.putfield 56, 3) := by decide +kernel
theorem dX1_copyFrom_32 : decode cX1_copyFrom 32 = .ok (.aload_n 0, 1) := by decide +kernel
theorem dX1_copyFrom_33 : decode cX1_copyFrom 33 = .ok (.aload_n 1, 1) := by decide +kernel
theorem dX1_copyFrom_34 : decode cX1_copyFrom 34 = .ok (.getfield 65, 3) := by decide +kernel
theorem dX1_copyFrom_37 : decode cX1_copyFrom 37 = .ok (.putfield 65, 3) := by decide +kernel
theorem dX1_copyFrom_40 : decode cX1_copyFrom 40 = .ok (.aload_n 0, 1) := by decide +kernel
theorem dX1_copyFrom_41 : decode cX1_copyFrom 41 = .ok (.getfield 14, 3) := by decide +kernel
theorem dX1_copyFrom_44 : decode cX1_copyFrom 44 = .ok (.aload_n 1, 1) := by decide +kernel
theorem dX1_copyFrom_45 : decode cX1_copyFrom 45 = .ok (.getfield 14, 3) := by decide +kernel
theorem dX1_copyFrom_48 : decode cX1_copyFrom 48 = .ok (.invokevirtual 71, 3) := by decide +kernel
theorem dX1_copyFrom_51 : decode cX1_copyFrom 51 = .ok (.aload_n 0, 1) := by decide +kernel
theorem dX1_copyFrom_52 : decode cX1_copyFrom 52 = .ok (.getfield 20, 3) := by decide +kernel
theorem dX1_copyFrom_55 : decode cX1_copyFrom 55 = .ok (.aload_n 1, 1) := by decide +kernel
theorem dX1_copyFrom_56 : decode cX1_copyFrom 56 = .ok (.getfield 20, 3) := by decide +kernel
theorem dX1_copyFrom_59 : decode cX1_copyFrom 59 = .ok (.invokevirtual 71, 3) := by decide +kernel
theorem dX1_copyFrom_62 : decode cX1_copyFrom 62 = .ok (.aload_n 0, 1) := by decide +kernel
theorem dX1_copyFrom_63 : decode cX1_copyFrom 63 = .ok (.getfield 23, 3) := by decide +kernel
theorem dX1_copyFrom_66 : decode cX1_copyFrom 66 = .ok (.aload_n 1, 1) := by decide +kernel
theorem dX1_copyFrom_67 : decode cX1_copyFrom 67 = .ok (.getfield 23, 3) := by decide +kernel
theorem dX1_copyFrom_70 : decode cX1_copyFrom 70 = .ok (.invokevirtual 71, 3) := by decide +kernel
theorem dX1_copyFrom_73 : decode cX1_copyFrom 73 = .ok (.aload_n 0, 1) := by decide +kernel
theorem dX1_copyFrom_74 : decode cX1_copyFrom 74 = .ok (.getfield 26, 3) := by decide +kernel
theorem dX1_copyFrom_77 : decode cX1_copyFrom 77 = .ok (.aload_n 1, 1) := by decide +kernel
theorem dX1_copyFrom_78 : decode cX1_copyFrom 78 = .ok (.getfield 26, 3) := by decide +kernel
theorem dX1_copyFrom_81 : decode cX1_copyFrom 81 = .ok (.invokevirtual 71, 3) := by decide +kernel
theorem dX1_copyFrom_84 : decode cX1_copyFrom 84 = .ok (.aload_n 0, 1) := by decide +kernel
theorem dX1_copyFrom_85 : decode cX1_copyFrom 85 = .ok (.getfield 29, 3) := by decide +kernel
theorem dX1_copyFrom_88 : decode cX1_copyFrom 88 = .ok (.aload_n 1, 1) := by decide +kernel
theorem dX1_copyFrom_89 : decode cX1_copyFrom 89 = .ok (.getfield 29, 3) := by decide +kernel
theorem dX1_copyFrom_92 : decode cX1_copyFrom 92 = .ok (.invokevirtual 71, 3) := by decide +kernel
theorem dX1_copyFrom_95 : decode cX1_copyFrom 95 = .ok (.aload_n 0, 1) := by decide +kernel
theorem dX1_copyFrom_96 : decode cX1_copyFrom 96 = .ok (.getfield 32, 3) := by decide +kernel
theorem dX1_copyFrom_99 : decode cX1_copyFrom 99 = .ok (.aload_n 1, 1) := by decide +kernel
theorem dX1_copyFrom_100 : decode cX1_copyFrom 100 = .ok (.getfield 32, 3) := by decide +kernel
theorem dX1_copyFrom_103 : decode cX1_copyFrom 103 = .ok (.invokevirtual 71, 3) := by decide +kernel
theorem dX1_copyFrom_106 : decode cX1_copyFrom 106 = .ok (.aload_n 0, 1) := by decide +kernel
theorem dX1_copyFrom_107 : decode cX1_copyFrom 107 = .ok (.getfield 35, 3) := by decide +kernel
theorem dX1_copyFrom_110 : decode cX1_copyFrom 110 = .ok (.aload_n 1, 1) := by decide +kernel
theorem dX1_copyFrom_111 : decode cX1_copyFrom 111 = .ok (.getfield 35, 3) := by decide +kernel
theorem dX1_copyFrom_114 : decode cX1_copyFrom 114 = .ok (.invokevirtual 71, 3) := by decide +kernel
theorem dX1_copyFrom_117 : decode cX1_copyFrom 117 = .ok (.aload_n 0, 1) := by decide +kernel
theorem dX1_copyFrom_118 : decode cX1_copyFrom 118 = .ok (.getfield 38, 3) := by decide +kernel
theorem dX1_copyFrom_121 : decode cX1_copyFrom 121 = .ok (.aload_n 1, 1) := by decide +kernel
theorem dX1_copyFrom_122 : decode cX1_copyFrom 122 = .ok (.getfield 38, 3) := by decide +kernel
theorem dX1_copyFrom_125 : decode cX1_copyFrom 125 = .ok (.invokevirtual 71, 3) := by decide +kernel
theorem dX1_copyFrom_128 : decode cX1_copyFrom 128 = .ok (.return_, 1) := by decide +kernel
theorem dX1_cells_0 : decode cX1_cells 0 = .ok (.aload_n 0, 1) := by decide +kernel
theorem dX1_cells_1 : decode cX1_cells 1 = .ok (.getfield 59, 3) := by decide +kernel
theorem dX1_cells_4 : decode cX1_cells 4 = .ok (.aload_n 0, 1) := by decide +kernel
theorem dX1_cells_5 : decode cX1_cells 5 = .ok (.getfield 62, 3) := by decide +kernel
theorem dX1_cells_8 : decode cX1_cells 8 = .ok (.imul, 1) := by decide +kernel
theorem dX1_cells_9 : decode cX1_cells 9 = .ok (.ireturn, 1) := by decide +kernel
set_option maxRecDepth 20000 in
theorem ggX1_numberOf_X4_at : GoodIn wsX1_numberOf wsX4_at := goodIn_r _ [11, 12, 26] (by decide +kernel) (by decide +kernel)
set_option maxRecDepth 20000 in
theorem gX1_numberOf_X4_at : GoodIn wsX1_numberOf (wsV RX1 75 RX4 yX4_at wsX4_at) := goodIn_app (goodIn_of _ (by decide +kernel)) ggX1_numberOf_X4_at
theorem dX1_numberOf_0 : decode cX1_numberOf 0 = .ok (.iload_n 1, 1) := by decide +kernel
theorem dX1_numberOf_1 : decode cX1_numberOf 1 = .ok (.tableswitch 60 4 8 #[35, 40, 45, 50, 55], 35) := by decide +kernel
theorem dX1_numberOf_36 : decode cX1_numberOf 36 = .ok (.aload_n 0, 1) := by decide +kernel
theorem dX1_numberOf_37 : decode cX1_numberOf 37 = .ok (.getfield 59, 3) := by decide +kernel
theorem dX1_numberOf_40 : decode cX1_numberOf 40 = .ok (.ireturn, 1) := by decide +kernel
theorem dX1_numberOf_41 : decode cX1_numberOf 41 = .ok (.aload_n 0, 1) := by decide +kernel
theorem dX1_numberOf_42 : decode cX1_numberOf 42 = .ok (.getfield 62, 3) := by decide +kernel
theorem dX1_numberOf_45 : decode cX1_numberOf 45 = .ok (.ireturn, 1) := by decide +kernel
theorem dX1_numberOf_46 : decode cX1_numberOf 46 = .ok (.aload_n 0, 1) := by decide +kernel
theorem dX1_numberOf_47 : decode cX1_numberOf 47 = .ok (.getfield 52, 3) := by decide +kernel
theorem dX1_numberOf_50 : decode cX1_numberOf 50 = .ok (.ireturn, 1) := by decide +kernel
theorem dX1_numberOf_51 : decode cX1_numberOf 51 = .ok (.aload_n 0, 1) := by decide +kernel
theorem dX1_numberOf_52 : decode cX1_numberOf 52 = .ok (.getfield 56, 3) := by decide +kernel
theorem dX1_numberOf_55 : decode cX1_numberOf 55 = .ok (.ireturn, 1) := by decide +kernel
theorem dX1_numberOf_56 : decode cX1_numberOf 56 = .ok (.aload_n 0, 1) := by decide +kernel
theorem dX1_numberOf_57 : decode cX1_numberOf 57 = .ok (.getfield 65, 3) := by decide +kernel
theorem dX1_numberOf_60 : decode cX1_numberOf 60 = .ok (.ireturn, 1) := by decide +kernel
theorem dX1_numberOf_61 : decode cX1_numberOf 61 = .ok (.aload_n 0, 1) := by decide +kernel
theorem dX1_numberOf_62 : decode cX1_numberOf 62 = .ok (.getfield 14, 3) := by decide +kernel
theorem dX1_numberOf_65 : decode cX1_numberOf 65 = .ok (.iload_n 1, 1) := by decide +kernel
theorem dX1_numberOf_66 : decode cX1_numberOf 66 = .ok (.invokevirtual 75, 3) := by decide +kernel
theorem dX1_numberOf_69 : decode cX1_numberOf 69 = .ok (.ireturn, 1) := by decide +kernel
set_option maxRecDepth 20000 in
theorem ggX1_numberOfCell_X4_at : GoodIn wsX1_numberOfCell wsX4_at := goodIn_r _ [8, 9, 53] (by decide +kernel) (by decide +kernel)
set_option maxRecDepth 20000 in
theorem gX1_numberOfCell_X4_at : GoodIn wsX1_numberOfCell (wsV RX1 75 RX4 yX4_at wsX4_at) := goodIn_app (goodIn_of _ (by decide +kernel)) ggX1_numberOfCell_X4_at
set_option maxRecDepth 20000 in
theorem ggX1_numberOfCell_X1_trappedBy : GoodIn wsX1_numberOfCell wsX1_trappedBy := goodIn_r _ [14, 15, 16, 17, 18, 13, 19, 3, 4, 5, 6, 7, 8, 9, 40, 41, 42, 43, 44, 45, 46, 47, 48, 49, 50, 51, 52, 53] (by decide +kernel) (by decide +kernel)
set_option maxRecDepth 20000 in
theorem gX1_numberOfCell_X1_trappedBy : GoodIn wsX1_numberOfCell (wsV RX1 79 RX1 yX1_trappedBy wsX1_trappedBy) := goodIn_app (goodIn_of _ (by decide +kernel)) ggX1_numberOfCell_X1_trappedBy
set_option maxRecDepth 20000 in
theorem ggX1_numberOfCell_X1_inShadow : GoodIn wsX1_numberOfCell wsX1_inShadow := goodIn_r _ [23, 24, 25, 1, 26, 27, 28, 13, 29, 30, 4, 5, 6, 7, 8, 9, 31, 32, 33, 34, 40, 41, 42, 43, 44, 45, 46, 47, 48, 49, 50, 51, 52, 53] (by decide +kernel) (by decide +kernel)
set_option maxRecDepth 20000 in
theorem gX1_numberOfCell_X1_inShadow : GoodIn wsX1_numberOfCell (wsV RX1 82 RX1 yX1_inShadow wsX1_inShadow) := goodIn_app (goodIn_of _ (by decide +kernel)) ggX1_numberOfCell_X1_inShadow
set_option maxRecDepth 20000 in
theorem ggX1_numberOfCell_X1_growth : GoodIn wsX1_numberOfCell wsX1_growth := goodIn_r _ [38, 1, 39, 4, 5, 6, 7, 8, 9, 40, 41, 42, 43, 44, 45, 46, 47, 48, 49, 50, 51, 52, 53] (by decide +kernel) (by decide +kernel)
set_option maxRecDepth 20000 in
theorem gX1_numberOfCell_X1_growth : GoodIn wsX1_numberOfCell (wsV RX1 86 RX1 yX1_growth wsX1_growth) := goodIn_app (goodIn_of _ (by decide +kernel)) ggX1_numberOfCell_X1_growth
theorem dX1_numberOfCell_0 : decode cX1_numberOfCell 0 = .ok (.iload_n 2, 1) := by decide +kernel
theorem dX1_numberOfCell_1 : decode cX1_numberOfCell 1 = .ok (.tableswitch 82 0 4 #[35, 44, 53, 62, 68], 35) := by decide +kernel
theorem dX1_numberOfCell_36 : decode cX1_numberOfCell 36 = .ok (.aload_n 0, 1) := by decide +kernel
theorem dX1_numberOfCell_37 : decode cX1_numberOfCell 37 = .ok (.getfield 20, 3) := by decide +kernel
theorem dX1_numberOfCell_40 : decode cX1_numberOfCell 40 = .ok (.iload_n 1, 1) := by decide +kernel
theorem dX1_numberOfCell_41 : decode cX1_numberOfCell 41 = .ok (.invokevirtual 75, 3) := by decide +kernel
theorem dX1_numberOfCell_44 : decode cX1_numberOfCell 44 = .ok (.ireturn, 1) := by decide +kernel
theorem dX1_numberOfCell_45 : decode cX1_numberOfCell 45 = .ok (.aload_n 0, 1) := by decide +kernel
theorem dX1_numberOfCell_46 : decode cX1_numberOfCell 46 = .ok (.getfield 26, 3) := by decide +kernel
theorem dX1_numberOfCell_49 : decode cX1_numberOfCell 49 = .ok (.iload_n 1, 1) := by decide +kernel
theorem dX1_numberOfCell_50 : decode cX1_numberOfCell 50 = .ok (.invokevirtual 75, 3) := by decide +kernel
theorem dX1_numberOfCell_53 : decode cX1_numberOfCell 53 = .ok (.ireturn, 1) := by decide +kernel
theorem dX1_numberOfCell_54 : decode cX1_numberOfCell 54 = .ok (.aload_n 0, 1) := by decide +kernel
theorem dX1_numberOfCell_55 : decode cX1_numberOfCell 55 = .ok (.getfield 29, 3) := by decide +kernel
theorem dX1_numberOfCell_58 : decode cX1_numberOfCell 58 = .ok (.iload_n 1, 1) := by decide +kernel
theorem dX1_numberOfCell_59 : decode cX1_numberOfCell 59 = .ok (.invokevirtual 75, 3) := by decide +kernel
theorem dX1_numberOfCell_62 : decode cX1_numberOfCell 62 = .ok (.ireturn, 1) := by decide +kernel
theorem dX1_numberOfCell_63 : decode cX1_numberOfCell 63 = .ok (.aload_n 0, 1) := by decide +kernel
theorem dX1_numberOfCell_64 : decode cX1_numberOfCell 64 = .ok (.iload_n 1, 1) := by decide +kernel
theorem dX1_numberOfCell_65 : decode cX1_numberOfCell 65 = .ok (.invokevirtual 79, 3) := by decide +kernel
theorem dX1_numberOfCell_68 : decode cX1_numberOfCell 68 = .ok (.ireturn, 1) := by decide +kernel
theorem dX1_numberOfCell_69 : decode cX1_numberOfCell 69 = .ok (.aload_n 0, 1) := by decide +kernel
theorem dX1_numberOfCell_70 : decode cX1_numberOfCell 70 = .ok (.iload_n 1, 1) := by decide +kernel
theorem dX1_numberOfCell_71 : decode cX1_numberOfCell 71 = .ok (.invokevirtual 82, 3) := by decide +kernel
theorem dX1_numberOfCell_74 : decode cX1_numberOfCell 74 = .ok (.ifCond .eq 7, 3) := by decide +kernel
theorem dX1_numberOfCell_77 : decode cX1_numberOfCell 77 = .ok (.iconst 1, 1) := by decide +kernel
theorem dX1_numberOfCell_78 : decode cX1_numberOfCell 78 = .ok (.goto 4, 3) := by decide +kernel
theorem dX1_numberOfCell_81 : decode cX1_numberOfCell 81 = .ok (.iconst 0, 1) := by decide +kernel
theorem dX1_numberOfCell_82 : decode cX1_numberOfCell 82 = .ok (.ireturn, 1) := by decide +kernel
theorem dX1_numberOfCell_83 : decode cX1_numberOfCell 83 = .ok (.aload_n 0, 1) := by decide +kernel
theorem dX1_numberOfCell_84 : decode cX1_numberOfCell 84 = .ok (.iload_n 1, 1) := by decide +kernel
theorem dX1_numberOfCell_85 : decode cX1_numberOfCell 85 = .ok (.invokevirtual 86, 3) := by decide +kernel
theorem dX1_numberOfCell_88 : decode cX1_numberOfCell 88 = .ok (.ireturn, 1) := by decide +kernel
set_option maxRecDepth 20000 in
theorem ggX1_growth_X4_at : GoodIn wsX1_growth wsX4_at := goodIn_r _ [7, 8, 22] (by decide +kernel) (by decide +kernel)
set_option maxRecDepth 20000 in
theorem gX1_growth_X4_at : GoodIn wsX1_growth (wsV RX1 75 RX4 yX4_at wsX4_at) := goodIn_app (goodIn_of _ (by decide +kernel)) ggX1_growth_X4_at
theorem dX1_growth_0 : decode cX1_growth 0 = .ok (.aload_n 0, 1) := by decide +kernel
theorem dX1_growth_1 : decode cX1_growth 1 = .ok (.getfield 20, 3) := by decide +kernel
theorem dX1_growth_4 : decode cX1_growth 4 = .ok (.iload_n 1, 1) := by decide +kernel
theorem dX1_growth_5 : decode cX1_growth 5 = .ok (.invokevirtual 75, 3) := by decide +kernel
theorem dX1_growth_8 : decode cX1_growth 8 = .ok (.aload_n 0, 1) := by decide +kernel
theorem dX1_growth_9 : decode cX1_growth 9 = .ok (.getfield 23, 3) := by decide +kernel
theorem dX1_growth_12 : decode cX1_growth 12 = .ok (.iload_n 1, 1) := by decide +kernel
theorem dX1_growth_13 : decode cX1_growth 13 = .ok (.invokevirtual 75, 3) := by decide +kernel
theorem dX1_growth_16 : decode cX1_growth 16 = .ok (.isub, 1) := by decide +kernel
theorem dX1_growth_17 : decode cX1_growth 17 = .ok (.ireturn, 1) := by decide +kernel
set_option maxRecDepth 20000 in
theorem ggX1_giveHeight_X4_put : GoodIn wsX1_giveHeight wsX4_put := goodIn_r _ [7, 8, 22] (by decide +kernel) (by decide +kernel)
set_option maxRecDepth 20000 in
theorem gX1_giveHeight_X4_put : GoodIn wsX1_giveHeight (wsV RX1 48 RX4 yX4_put wsX4_put) := goodIn_app (goodIn_of _ (by decide +kernel)) ggX1_giveHeight_X4_put
theorem dX1_giveHeight_0 : decode cX1_giveHeight 0 = .ok (.aload_n 0, 1) := by decide +kernel
theorem dX1_giveHeight_1 : decode cX1_giveHeight 1 = .ok (.getfield 20, 3) := by decide +kernel
theorem dX1_giveHeight_4 : decode cX1_giveHeight 4 = .ok (.iload_n 1, 1) := by decide +kernel
theorem dX1_giveHeight_5 : decode cX1_giveHeight 5 = .ok (.iload_n 2, 1) := by decide +kernel
theorem dX1_giveHeight_6 : decode cX1_giveHeight 6 = .ok (.invokevirtual 48, 3) := by decide +kernel
theorem dX1_giveHeight_9 : decode cX1_giveHeight 9 = .ok (.aload_n 0, 1) := by decide +kernel
theorem dX1_giveHeight_10 : decode cX1_giveHeight 10 = .ok (.getfield 23, 3) := by decide +kernel
theorem dX1_giveHeight_13 : decode cX1_giveHeight 13 = .ok (.iload_n 1, 1) := by decide +kernel
theorem dX1_giveHeight_14 : decode cX1_giveHeight 14 = .ok (.iload_n 2, 1) := by decide +kernel
theorem dX1_giveHeight_15 : decode cX1_giveHeight 15 = .ok (.invokevirtual 48, 3) := by decide +kernel
theorem dX1_giveHeight_18 : decode cX1_giveHeight 18 = .ok (.return_, 1) := by decide +kernel
set_option maxRecDepth 20000 in
theorem ggX1_hasFence_X4_at : GoodIn wsX1_hasFence wsX4_at := goodIn_r _ [6, 7, 21] (by decide +kernel) (by decide +kernel)
set_option maxRecDepth 20000 in
theorem gX1_hasFence_X4_at : GoodIn wsX1_hasFence (wsV RX1 75 RX4 yX4_at wsX4_at) := goodIn_app (goodIn_of _ (by decide +kernel)) ggX1_hasFence_X4_at
theorem dX1_hasFence_0 : decode cX1_hasFence 0 = .ok (.aload_n 0, 1) := by decide +kernel
theorem dX1_hasFence_1 : decode cX1_hasFence 1 = .ok (.getfield 29, 3) := by decide +kernel
theorem dX1_hasFence_4 : decode cX1_hasFence 4 = .ok (.iload_n 1, 1) := by decide +kernel
theorem dX1_hasFence_5 : decode cX1_hasFence 5 = .ok (.invokevirtual 75, 3) := by decide +kernel
theorem dX1_hasFence_8 : decode cX1_hasFence 8 = .ok (.iconst (-1), 1) := by decide +kernel
theorem dX1_hasFence_9 : decode cX1_hasFence 9 = .ok (.if_icmp .eq 7, 3) := by decide +kernel
theorem dX1_hasFence_12 : decode cX1_hasFence 12 = .ok (.iconst 1, 1) := by decide +kernel
theorem dX1_hasFence_13 : decode cX1_hasFence 13 = .ok (.goto 4, 3) := by decide +kernel
theorem dX1_hasFence_16 : decode cX1_hasFence 16 = .ok (.iconst 0, 1) := by decide +kernel
theorem dX1_hasFence_17 : decode cX1_hasFence 17 = .ok (.ireturn, 1) := by decide +kernel
set_option maxRecDepth 20000 in
theorem ggX1_hasOpenFence_X4_at : GoodIn wsX1_hasOpenFence wsX4_at := goodIn_r _ [7, 8, 22] (by decide +kernel) (by decide +kernel)
set_option maxRecDepth 20000 in
theorem gX1_hasOpenFence_X4_at : GoodIn wsX1_hasOpenFence (wsV RX1 75 RX4 yX4_at wsX4_at) := goodIn_app (goodIn_of _ (by decide +kernel)) ggX1_hasOpenFence_X4_at
theorem dX1_hasOpenFence_0 : decode cX1_hasOpenFence 0 = .ok (.aload_n 0, 1) := by decide +kernel
theorem dX1_hasOpenFence_1 : decode cX1_hasOpenFence 1 = .ok (.getfield 29, 3) := by decide +kernel
theorem dX1_hasOpenFence_4 : decode cX1_hasOpenFence 4 = .ok (.iload_n 1, 1) := by decide +kernel
theorem dX1_hasOpenFence_5 : decode cX1_hasOpenFence 5 = .ok (.invokevirtual 75, 3) := by decide +kernel
theorem dX1_hasOpenFence_8 : decode cX1_hasOpenFence 8 = .ok (.istore_n 2, 1) := by decide +kernel
theorem dX1_hasOpenFence_9 : decode cX1_hasOpenFence 9 = .ok (.iload_n 2, 1) := by decide +kernel
theorem dX1_hasOpenFence_10 : decode cX1_hasOpenFence 10 = .ok (.iconst (-1), 1) := by decide +kernel
theorem dX1_hasOpenFence_11 : decode cX1_hasOpenFence 11 = .ok (.if_icmp .eq 19, 3) := by decide +kernel
theorem dX1_hasOpenFence_14 : decode cX1_hasOpenFence 14 = .ok (.aload_n 0, 1) := by decide +kernel
theorem dX1_hasOpenFence_15 : decode cX1_hasOpenFence 15 = .ok (.getfield 32, 3) := by decide +kernel
theorem dX1_hasOpenFence_18 : decode cX1_hasOpenFence 18 = .ok (.iload_n 1, 1) := by decide +kernel
theorem dX1_hasOpenFence_19 : decode cX1_hasOpenFence 19 = .ok (.invokevirtual 75, 3) := by decide +kernel
theorem dX1_hasOpenFence_22 : decode cX1_hasOpenFence 22 = .ok (.iload_n 2, 1) := by decide +kernel
theorem dX1_hasOpenFence_23 : decode cX1_hasOpenFence 23 = .ok (.if_icmp .ge 7, 3) := by decide +kernel
theorem dX1_hasOpenFence_26 : decode cX1_hasOpenFence 26 = .ok (.iconst 1, 1) := by decide +kernel
theorem dX1_hasOpenFence_27 : decode cX1_hasOpenFence 27 = .ok (.goto 4, 3) := by decide +kernel
theorem dX1_hasOpenFence_30 : decode cX1_hasOpenFence 30 = .ok (.iconst 0, 1) := by decide +kernel
theorem dX1_hasOpenFence_31 : decode cX1_hasOpenFence 31 = .ok (.ireturn, 1) := by decide +kernel
set_option maxRecDepth 20000 in
theorem ggX1_trappedBy_X1_hasFence : GoodIn wsX1_trappedBy wsX1_hasFence := goodIn_r _ [6, 7, 8, 9, 10, 11, 12, 13, 14, 15, 16, 17, 18, 19, 20, 21, 22, 23, 24, 25, 26, 27] (by decide +kernel) (by decide +kernel)
set_option maxRecDepth 20000 in
theorem gX1_trappedBy_X1_hasFence : GoodIn wsX1_trappedBy (wsV RX1 89 RX1 yX1_hasFence wsX1_hasFence) := goodIn_app (goodIn_of _ (by decide +kernel)) ggX1_trappedBy_X1_hasFence
set_option maxRecDepth 20000 in
theorem ggX1_trappedBy_X4_at : GoodIn wsX1_trappedBy wsX4_at := goodIn_r _ [12, 13, 27] (by decide +kernel) (by decide +kernel)
set_option maxRecDepth 20000 in
theorem gX1_trappedBy_X4_at : GoodIn wsX1_trappedBy (wsV RX1 75 RX4 yX4_at wsX4_at) := goodIn_app (goodIn_of _ (by decide +kernel)) ggX1_trappedBy_X4_at
theorem dX1_trappedBy_0 : decode cX1_trappedBy 0 = .ok (.aload_n 0, 1) := by decide +kernel
theorem dX1_trappedBy_1 : decode cX1_trappedBy 1 = .ok (.iload_n 1, 1) := by decide +kernel
theorem dX1_trappedBy_2 : decode cX1_trappedBy 2 = .ok (.invokevirtual 89, 3) := by decide +kernel
theorem dX1_trappedBy_5 : decode cX1_trappedBy 5 = .ok (.ifCond .eq 14, 3) := by decide +kernel
theorem dX1_trappedBy_8 : decode cX1_trappedBy 8 = .ok (.aload_n 0, 1) := by decide +kernel
theorem dX1_trappedBy_9 : decode cX1_trappedBy 9 = .ok (.getfield 32, 3) := by decide +kernel
theorem dX1_trappedBy_12 : decode cX1_trappedBy 12 = .ok (.iload_n 1, 1) := by decide +kernel
theorem dX1_trappedBy_13 : decode cX1_trappedBy 13 = .ok (.invokevirtual 75, 3) := by decide +kernel
theorem dX1_trappedBy_16 : decode cX1_trappedBy 16 = .ok (.goto 4, 3) := by decide +kernel
theorem dX1_trappedBy_19 : decode cX1_trappedBy 19 = .ok (.iconst (-1), 1) := by decide +kernel
theorem dX1_trappedBy_20 : decode cX1_trappedBy 20 = .ok (.ireturn, 1) := by decide +kernel
set_option maxRecDepth 20000 in
theorem ggX1_putFence_X4_put : GoodIn wsX1_putFence wsX4_put := goodIn_r _ [7, 8, 22] (by decide +kernel) (by decide +kernel)
set_option maxRecDepth 20000 in
theorem gX1_putFence_X4_put : GoodIn wsX1_putFence (wsV RX1 48 RX4 yX4_put wsX4_put) := goodIn_app (goodIn_of _ (by decide +kernel)) ggX1_putFence_X4_put
theorem dX1_putFence_0 : decode cX1_putFence 0 = .ok (.aload_n 0, 1) := by decide +kernel
theorem dX1_putFence_1 : decode cX1_putFence 1 = .ok (.getfield 29, 3) := by decide +kernel
theorem dX1_putFence_4 : decode cX1_putFence 4 = .ok (.iload_n 1, 1) := by decide +kernel
theorem dX1_putFence_5 : decode cX1_putFence 5 = .ok (.iload_n 2, 1) := by decide +kernel
theorem dX1_putFence_6 : decode cX1_putFence 6 = .ok (.invokevirtual 48, 3) := by decide +kernel
theorem dX1_putFence_9 : decode cX1_putFence 9 = .ok (.aload_n 0, 1) := by decide +kernel
theorem dX1_putFence_10 : decode cX1_putFence 10 = .ok (.getfield 32, 3) := by decide +kernel
theorem dX1_putFence_13 : decode cX1_putFence 13 = .ok (.iload_n 1, 1) := by decide +kernel
theorem dX1_putFence_14 : decode cX1_putFence 14 = .ok (.iconst 0, 1) := by decide +kernel
theorem dX1_putFence_15 : decode cX1_putFence 15 = .ok (.invokevirtual 48, 3) := by decide +kernel
theorem dX1_putFence_18 : decode cX1_putFence 18 = .ok (.return_, 1) := by decide +kernel
theorem dX1_neighbor_0 : decode cX1_neighbor 0 = .ok (.aload_n 0, 1) := by decide +kernel
theorem dX1_neighbor_1 : decode cX1_neighbor 1 = .ok (.getfield 62, 3) := by decide +kernel
theorem dX1_neighbor_4 : decode cX1_neighbor 4 = .ok (.ifCond .gt 5, 3) := by decide +kernel
theorem dX1_neighbor_7 : decode cX1_neighbor 7 = .ok (.iload_n 1, 1) := by decide +kernel
theorem dX1_neighbor_8 : decode cX1_neighbor 8 = .ok (.ireturn, 1) := by decide +kernel
theorem dX1_neighbor_9 : decode cX1_neighbor 9 = .ok (.iload_n 1, 1) := by decide +kernel
theorem dX1_neighbor_10 : decode cX1_neighbor 10 = .ok (.aload_n 0, 1) := by decide +kernel
theorem dX1_neighbor_11 : decode cX1_neighbor 11 = .ok (.getfield 62, 3) := by decide +kernel
theorem dX1_neighbor_14 : decode cX1_neighbor 14 = .ok (.idiv, 1) := by decide +kernel
theorem dX1_neighbor_15 : decode cX1_neighbor 15 = .ok (.istore_n 3, 1) := by decide +kernel
theorem dX1_neighbor_16 : decode cX1_neighbor 16 = .ok (.iload_n 1, 1) := by decide +kernel
theorem dX1_neighbor_17 : decode cX1_neighbor 17 = .ok (.aload_n 0, 1) := by decide +kernel
theorem dX1_neighbor_18 : decode cX1_neighbor 18 = .ok (.getfield 62, 3) := by decide +kernel
theorem dX1_neighbor_21 : decode cX1_neighbor 21 = .ok (.irem, 1) := by decide +kernel
theorem dX1_neighbor_22 : decode cX1_neighbor 22 = .ok (.istore 4, 2) := by decide +kernel
theorem dX1_neighbor_24 : decode cX1_neighbor 24 = .ok (.iload_n 2, 1) := by decide +kernel
theorem dX1_neighbor_25 : decode cX1_neighbor 25 = .ok (.tableswitch 98 0 2 #[27, 54, 76], 27) := by decide +kernel
theorem dX1_neighbor_52 : decode cX1_neighbor 52 = .ok (.iload_n 3, 1) := by decide +kernel
theorem dX1_neighbor_53 : decode cX1_neighbor 53 = .ok (.ifCond .le 12, 3) := by decide +kernel
theorem dX1_neighbor_56 : decode cX1_neighbor 56 = .ok (.iload_n 1, 1) := by decide +kernel
theorem dX1_neighbor_57 : decode cX1_neighbor 57 = .ok (.aload_n 0, 1) := by decide +kernel
theorem dX1_neighbor_58 : decode cX1_neighbor 58 = .ok (.getfield 62, 3) := by decide +kernel
theorem dX1_neighbor_61 : decode cX1_neighbor 61 = .ok (.isub, 1) := by decide +kernel
theorem dX1_neighbor_62 : decode cX1_neighbor 62 = .ok (.goto 16, 3) := by decide +kernel
theorem dX1_neighbor_65 : decode cX1_neighbor 65 = .ok (.iload_n 1, 1) := by decide +kernel
theorem dX1_neighbor_66 : decode cX1_neighbor 66 = .ok (.aload_n 0, 1) := by decide +kernel
theorem dX1_neighbor_67 : decode cX1_neighbor 67 = .ok (.getfield 59, 3) := by decide +kernel
theorem dX1_neighbor_70 : decode cX1_neighbor 70 = .ok (.iconst 1, 1) := by decide +kernel
theorem dX1_neighbor_71 : decode cX1_neighbor 71 = .ok (.isub, 1) := by decide +kernel
theorem dX1_neighbor_72 : decode cX1_neighbor 72 = .ok (.aload_n 0, 1) := by decide +kernel
theorem dX1_neighbor_73 : decode cX1_neighbor 73 = .ok (.getfield 62, 3) := by decide +kernel
theorem dX1_neighbor_76 : decode cX1_neighbor 76 = .ok (.imul, 1) := by decide +kernel
theorem dX1_neighbor_77 : decode cX1_neighbor 77 = .ok (.iadd, 1) := by decide +kernel
theorem dX1_neighbor_78 : decode cX1_neighbor 78 = .ok (.ireturn, 1) := by decide +kernel
theorem dX1_neighbor_79 : decode cX1_neighbor 79 = .ok (.iload 4, 2) := by decide +kernel
theorem dX1_neighbor_81 : decode cX1_neighbor 81 = .ok (.aload_n 0, 1) := by decide +kernel
theorem dX1_neighbor_82 : decode cX1_neighbor 82 = .ok (.getfield 62, 3) := by decide +kernel
theorem dX1_neighbor_85 : decode cX1_neighbor 85 = .ok (.iconst 1, 1) := by decide +kernel
theorem dX1_neighbor_86 : decode cX1_neighbor 86 = .ok (.isub, 1) := by decide +kernel
theorem dX1_neighbor_87 : decode cX1_neighbor 87 = .ok (.if_icmp .ge 9, 3) := by decide +kernel
theorem dX1_neighbor_90 : decode cX1_neighbor 90 = .ok (.iload_n 1, 1) := by decide +kernel
theorem dX1_neighbor_91 : decode cX1_neighbor 91 = .ok (.iconst 1, 1) := by decide +kernel
theorem dX1_neighbor_92 : decode cX1_neighbor 92 = .ok (.iadd, 1) := by decide +kernel
theorem dX1_neighbor_93 : decode cX1_neighbor 93 = .ok (.goto 7, 3) := by decide +kernel
theorem dX1_neighbor_96 : decode cX1_neighbor 96 = .ok (.iload_n 1, 1) := by decide +kernel
theorem dX1_neighbor_97 : decode cX1_neighbor 97 = .ok (.iload 4, 2) := by decide +kernel
theorem dX1_neighbor_99 : decode cX1_neighbor 99 = .ok (.isub, 1) := by decide +kernel
theorem dX1_neighbor_100 : decode cX1_neighbor 100 = .ok (.ireturn, 1) := by decide +kernel
theorem dX1_neighbor_101 : decode cX1_neighbor 101 = .ok (.iload_n 3, 1) := by decide +kernel
theorem dX1_neighbor_102 : decode cX1_neighbor 102 = .ok (.aload_n 0, 1) := by decide +kernel
theorem dX1_neighbor_103 : decode cX1_neighbor 103 = .ok (.getfield 59, 3) := by decide +kernel
theorem dX1_neighbor_106 : decode cX1_neighbor 106 = .ok (.iconst 1, 1) := by decide +kernel
theorem dX1_neighbor_107 : decode cX1_neighbor 107 = .ok (.isub, 1) := by decide +kernel
theorem dX1_neighbor_108 : decode cX1_neighbor 108 = .ok (.if_icmp .ge 12, 3) := by decide +kernel
theorem dX1_neighbor_111 : decode cX1_neighbor 111 = .ok (.iload_n 1, 1) := by decide +kernel
theorem dX1_neighbor_112 : decode cX1_neighbor 112 = .ok (.aload_n 0, 1) := by decide +kernel
theorem dX1_neighbor_113 : decode cX1_neighbor 113 = .ok (.getfield 62, 3) := by decide +kernel
theorem dX1_neighbor_116 : decode cX1_neighbor 116 = .ok (.iadd, 1) := by decide +kernel
theorem dX1_neighbor_117 : decode cX1_neighbor 117 = .ok (.goto 5, 3) := by decide +kernel
theorem dX1_neighbor_120 : decode cX1_neighbor 120 = .ok (.iload 4, 2) := by decide +kernel
theorem dX1_neighbor_122 : decode cX1_neighbor 122 = .ok (.ireturn, 1) := by decide +kernel
theorem dX1_neighbor_123 : decode cX1_neighbor 123 = .ok (.iload 4, 2) := by decide +kernel
theorem dX1_neighbor_125 : decode cX1_neighbor 125 = .ok (.ifCond .le 9, 3) := by decide +kernel
theorem dX1_neighbor_128 : decode cX1_neighbor 128 = .ok (.iload_n 1, 1) := by decide +kernel
theorem dX1_neighbor_129 : decode cX1_neighbor 129 = .ok (.iconst 1, 1) := by decide +kernel
theorem dX1_neighbor_130 : decode cX1_neighbor 130 = .ok (.isub, 1) := by decide +kernel
theorem dX1_neighbor_131 : decode cX1_neighbor 131 = .ok (.goto 11, 3) := by decide +kernel
theorem dX1_neighbor_134 : decode cX1_neighbor 134 = .ok (.iload_n 1, 1) := by decide +kernel
theorem dX1_neighbor_135 : decode cX1_neighbor 135 = .ok (.aload_n 0, 1) := by decide +kernel
theorem dX1_neighbor_136 : decode cX1_neighbor 136 = .ok (.getfield 62, 3) := by decide +kernel
theorem dX1_neighbor_139 : decode cX1_neighbor 139 = .ok (.iadd, 1) := by decide +kernel
theorem dX1_neighbor_140 : decode cX1_neighbor 140 = .ok (.iconst 1, 1) := by decide +kernel
theorem dX1_neighbor_141 : decode cX1_neighbor 141 = .ok (.isub, 1) := by decide +kernel
theorem dX1_neighbor_142 : decode cX1_neighbor 142 = .ok (.ireturn, 1) := by decide +kernel
theorem dX1_downwindSide_0 : decode cX1_downwindSide 0 = .ok (.aload_n 0, 1) := by decide +kernel
theorem dX1_downwindSide_1 : decode cX1_downwindSide 1 = .ok (.getfield 52, 3) := by decide +kernel
theorem dX1_downwindSide_4 : decode cX1_downwindSide 4 = .ok (.iconst 1, 1) := by decide +kernel
theorem dX1_downwindSide_5 : decode cX1_downwindSide 5 = .ok (.iadd, 1) := by decide +kernel
theorem dX1_downwindSide_6 : decode cX1_downwindSide 6 = .ok (.iconst 4, 1) := by decide +kernel
theorem dX1_downwindSide_7 : decode cX1_downwindSide 7 = .ok (.irem, 1) := by decide +kernel
theorem dX1_downwindSide_8 : decode cX1_downwindSide 8 = .ok (.ireturn, 1) := by decide +kernel
theorem dX1_upwindSide_0 : decode cX1_upwindSide 0 = .ok (.aload_n 0, 1) := by decide +kernel
theorem dX1_upwindSide_1 : decode cX1_upwindSide 1 = .ok (.getfield 52, 3) := by decide +kernel
theorem dX1_upwindSide_4 : decode cX1_upwindSide 4 = .ok (.iconst 3, 1) := by decide +kernel
theorem dX1_upwindSide_5 : decode cX1_upwindSide 5 = .ok (.iadd, 1) := by decide +kernel
theorem dX1_upwindSide_6 : decode cX1_upwindSide 6 = .ok (.iconst 4, 1) := by decide +kernel
theorem dX1_upwindSide_7 : decode cX1_upwindSide 7 = .ok (.irem, 1) := by decide +kernel
theorem dX1_upwindSide_8 : decode cX1_upwindSide 8 = .ok (.ireturn, 1) := by decide +kernel
set_option maxRecDepth 20000 in
theorem ggX1_inShadow_X1_upwindSide : GoodIn wsX1_inShadow wsX1_upwindSide := goodIn_r _ [8, 9, 20, 21, 22, 23, 24, 25, 26, 27, 28, 29, 30, 31, 32] (by decide +kernel) (by decide +kernel)
set_option maxRecDepth 20000 in
theorem gX1_inShadow_X1_upwindSide : GoodIn wsX1_inShadow (wsV RX1 92 RX1 yX1_upwindSide wsX1_upwindSide) := goodIn_app (goodIn_of _ (by decide +kernel)) ggX1_inShadow_X1_upwindSide
set_option maxRecDepth 20000 in
theorem ggX1_inShadow_X4_at : GoodIn wsX1_inShadow wsX4_at := goodIn_r _ [14, 15, 33] (by decide +kernel) (by decide +kernel)
set_option maxRecDepth 20000 in
theorem gX1_inShadow_X4_at : GoodIn wsX1_inShadow (wsV RX1 75 RX4 yX4_at wsX4_at) := goodIn_app (goodIn_of _ (by decide +kernel)) ggX1_inShadow_X4_at
set_option maxRecDepth 20000 in
theorem ggX1_inShadow_X1_neighbor : GoodIn wsX1_inShadow wsX1_neighbor := goodIn_r _ [19, 2, 1, 20, 21, 22, 23, 24, 25, 26, 27, 28, 29, 30, 31, 32] (by decide +kernel) (by decide +kernel)
set_option maxRecDepth 20000 in
theorem gX1_inShadow_X1_neighbor : GoodIn wsX1_inShadow (wsV RX1 96 RX1 yX1_neighbor wsX1_neighbor) := goodIn_app (goodIn_of _ (by decide +kernel)) ggX1_inShadow_X1_neighbor
theorem dX1_inShadow_0 : decode cX1_inShadow 0 = .ok (.aload_n 0, 1) := by decide +kernel
theorem dX1_inShadow_1 : decode cX1_inShadow 1 = .ok (.invokevirtual 92, 3) := by decide +kernel
theorem dX1_inShadow_4 : decode cX1_inShadow 4 = .ok (.istore_n 2, 1) := by decide +kernel
theorem dX1_inShadow_5 : decode cX1_inShadow 5 = .ok (.iload_n 2, 1) := by decide +kernel
theorem dX1_inShadow_6 : decode cX1_inShadow 6 = .ok (.ifCond .eq 8, 3) := by decide +kernel
theorem dX1_inShadow_9 : decode cX1_inShadow 9 = .ok (.iload_n 2, 1) := by decide +kernel
theorem dX1_inShadow_10 : decode cX1_inShadow 10 = .ok (.iconst 2, 1) := by decide +kernel
theorem dX1_inShadow_11 : decode cX1_inShadow 11 = .ok (.if_icmp .ne 10, 3) := by decide +kernel
theorem dX1_inShadow_14 : decode cX1_inShadow 14 = .ok (.aload_n 0, 1) := by decide +kernel
theorem dX1_inShadow_15 : decode cX1_inShadow 15 = .ok (.getfield 59, 3) := by decide +kernel
theorem dX1_inShadow_18 : decode cX1_inShadow 18 = .ok (.goto 7, 3) := by decide +kernel
theorem dX1_inShadow_21 : decode cX1_inShadow 21 = .ok (.aload_n 0, 1) := by decide +kernel
theorem dX1_inShadow_22 : decode cX1_inShadow 22 = .ok (.getfield 62, 3) := by decide +kernel
theorem dX1_inShadow_25 : decode cX1_inShadow 25 = .ok (.istore_n 3, 1) := by decide +kernel
theorem dX1_inShadow_26 : decode cX1_inShadow 26 = .ok (.aload_n 0, 1) := by decide +kernel
theorem dX1_inShadow_27 : decode cX1_inShadow 27 = .ok (.getfield 20, 3) := by decide +kernel
theorem dX1_inShadow_30 : decode cX1_inShadow 30 = .ok (.iload_n 1, 1) := by decide +kernel
theorem dX1_inShadow_31 : decode cX1_inShadow 31 = .ok (.invokevirtual 75, 3) := by decide +kernel
theorem dX1_inShadow_34 : decode cX1_inShadow 34 = .ok (.istore 4, 2) := by decide +kernel
theorem dX1_inShadow_36 : decode cX1_inShadow 36 = .ok (.iload_n 1, 1) := by decide +kernel
theorem dX1_inShadow_37 : decode cX1_inShadow 37 = .ok (.istore 5, 2) := by decide +kernel
theorem dX1_inShadow_39 : decode cX1_inShadow 39 = .ok (.iconst 1, 1) := by decide +kernel
theorem dX1_inShadow_40 : decode cX1_inShadow 40 = .ok (.istore 6, 2) := by decide +kernel
theorem dX1_inShadow_42 : decode cX1_inShadow 42 = .ok (.iload 6, 2) := by decide +kernel
theorem dX1_inShadow_44 : decode cX1_inShadow 44 = .ok (.iload_n 3, 1) := by decide +kernel
theorem dX1_inShadow_45 : decode cX1_inShadow 45 = .ok (.if_icmp .ge 41, 3) := by decide +kernel
theorem dX1_inShadow_48 : decode cX1_inShadow 48 = .ok (.aload_n 0, 1) := by decide +kernel
theorem dX1_inShadow_49 : decode cX1_inShadow 49 = .ok (.iload 5, 2) := by decide +kernel
theorem dX1_inShadow_51 : decode cX1_inShadow 51 = .ok (.iload_n 2, 1) := by decide +kernel
theorem dX1_inShadow_52 : decode cX1_inShadow 52 = .ok (.invokevirtual 96, 3) := by decide +kernel
theorem dX1_inShadow_55 : decode cX1_inShadow 55 = .ok (.istore 5, 2) := by decide +kernel
theorem dX1_inShadow_57 : decode cX1_inShadow 57 = .ok (.aload_n 0, 1) := by decide +kernel
theorem dX1_inShadow_58 : decode cX1_inShadow 58 = .ok (.getfield 20, 3) := by decide +kernel
theorem dX1_inShadow_61 : decode cX1_inShadow 61 = .ok (.iload 5, 2) := by decide +kernel
theorem dX1_inShadow_63 : decode cX1_inShadow 63 = .ok (.invokevirtual 75, 3) := by decide +kernel
theorem dX1_inShadow_66 : decode cX1_inShadow 66 = .ok (.iload 4, 2) := by decide +kernel
theorem dX1_inShadow_68 : decode cX1_inShadow 68 = .ok (.isub, 1) := by decide +kernel
theorem dX1_inShadow_69 : decode cX1_inShadow 69 = .ok (.iconst 5, 1) := by decide +kernel
theorem dX1_inShadow_70 : decode cX1_inShadow 70 = .ok (.imul, 1) := by decide +kernel
theorem dX1_inShadow_71 : decode cX1_inShadow 71 = .ok (.iconst 4, 1) := by decide +kernel
theorem dX1_inShadow_72 : decode cX1_inShadow 72 = .ok (.iload 6, 2) := by decide +kernel
theorem dX1_inShadow_74 : decode cX1_inShadow 74 = .ok (.imul, 1) := by decide +kernel
theorem dX1_inShadow_75 : decode cX1_inShadow 75 = .ok (.if_icmp .le 5, 3) := by decide +kernel
theorem dX1_inShadow_78 : decode cX1_inShadow 78 = .ok (.iconst 1, 1) := by decide +kernel
theorem dX1_inShadow_79 : decode cX1_inShadow 79 = .ok (.ireturn, 1) := by decide +kernel
theorem dX1_inShadow_80 : decode cX1_inShadow 80 = .ok (.iinc 6 1, 3) := by decide +kernel
theorem dX1_inShadow_83 : decode cX1_inShadow 83 = .ok (.goto (-41), 3) := by decide +kernel
theorem dX1_inShadow_86 : decode cX1_inShadow 86 = .ok (.iconst 0, 1) := by decide +kernel
theorem dX1_inShadow_87 : decode cX1_inShadow 87 = .ok (.ireturn, 1) := by decide +kernel
theorem dX1_draw_0 : decode cX1_draw 0 = .ok (.aload_n 0, 1) := by decide +kernel
theorem dX1_draw_1 : decode cX1_draw 1 = .ok (.ldc2_w 100, 3) := by decide +kernel
theorem dX1_draw_4 : decode cX1_draw 4 = .ok (.aload_n 0, 1) := by decide +kernel
theorem dX1_draw_5 : decode cX1_draw 5 = .ok (.getfield 56, 3) := by decide +kernel
theorem dX1_draw_8 : decode cX1_draw 8 = .ok (.i2l, 1) := by decide +kernel
theorem dX1_draw_9 : decode cX1_draw 9 = .ok (.lmul, 1) := by decide +kernel
theorem dX1_draw_10 : decode cX1_draw 10 = .ok (.ldc2_w 102, 3) := by decide +kernel
theorem dX1_draw_13 : decode cX1_draw 13 = .ok (.ladd, 1) := by decide +kernel
theorem dX1_draw_14 : decode cX1_draw 14 = .ok (.ldc2_w 104, 3) := by decide +kernel
theorem dX1_draw_17 : decode cX1_draw 17 = .ok (.lrem, 1) := by decide +kernel
theorem dX1_draw_18 : decode cX1_draw 18 = .ok (.l2i, 1) := by decide +kernel
theorem dX1_draw_19 : decode cX1_draw 19 = .ok (.putfield 56, 3) := by decide +kernel
theorem dX1_draw_22 : decode cX1_draw 22 = .ok (.iload_n 1, 1) := by decide +kernel
theorem dX1_draw_23 : decode cX1_draw 23 = .ok (.ifCond .le 15, 3) := by decide +kernel
theorem dX1_draw_26 : decode cX1_draw 26 = .ok (.aload_n 0, 1) := by decide +kernel
theorem dX1_draw_27 : decode cX1_draw 27 = .ok (.getfield 56, 3) := by decide +kernel
theorem dX1_draw_30 : decode cX1_draw 30 = .ok (.ldc 106, 2) := by decide +kernel
theorem dX1_draw_32 : decode cX1_draw 32 = .ok (.idiv, 1) := by decide +kernel
theorem dX1_draw_33 : decode cX1_draw 33 = .ok (.iload_n 1, 1) := by decide +kernel
theorem dX1_draw_34 : decode cX1_draw 34 = .ok (.irem, 1) := by decide +kernel
theorem dX1_draw_35 : decode cX1_draw 35 = .ok (.goto 4, 3) := by decide +kernel
theorem dX1_draw_38 : decode cX1_draw 38 = .ok (.iconst 0, 1) := by decide +kernel
theorem dX1_draw_39 : decode cX1_draw 39 = .ok (.ireturn, 1) := by decide +kernel
set_option maxRecDepth 20000 in
theorem ggX1_endSeason_X1_cells : GoodIn wsX1_endSeason wsX1_cells := goodIn_r _ [9, 10, 11, 42, 43, 44, 45, 46, 47, 48, 49, 50, 51, 52, 53, 54] (by decide +kernel) (by decide +kernel)
set_option maxRecDepth 20000 in
theorem gX1_endSeason_X1_cells : GoodIn wsX1_endSeason (wsV RX1 107 RX1 yX1_cells wsX1_cells) := goodIn_app (goodIn_of _ (by decide +kernel)) ggX1_endSeason_X1_cells
set_option maxRecDepth 20000 in
theorem ggX1_endSeason_X4_at : GoodIn wsX1_endSeason wsX4_at := goodIn_r _ [16, 17, 55] (by decide +kernel) (by decide +kernel)
set_option maxRecDepth 20000 in
theorem gX1_endSeason_X4_at : GoodIn wsX1_endSeason (wsV RX1 75 RX4 yX4_at wsX4_at) := goodIn_app (goodIn_of _ (by decide +kernel)) ggX1_endSeason_X4_at
set_option maxRecDepth 20000 in
theorem ggX1_endSeason_X1_endSeasonOfTuft : GoodIn wsX1_endSeason wsX1_endSeasonOfTuft := goodIn_r _ [21, 1, 22, 23, 24, 25, 26, 27, 28, 12, 13, 14, 15, 16, 17, 29, 30, 31, 8, 32, 3, 2, 33, 34, 35, 36, 42, 43, 44, 45, 46, 47, 48, 49, 50, 51, 52, 53, 54, 55] (by decide +kernel) (by decide +kernel)
set_option maxRecDepth 20000 in
theorem gX1_endSeason_X1_endSeasonOfTuft : GoodIn wsX1_endSeason (wsV RX1 110 RX1 yX1_endSeasonOfTuft wsX1_endSeasonOfTuft) := goodIn_app (goodIn_of _ (by decide +kernel)) ggX1_endSeason_X1_endSeasonOfTuft
set_option maxRecDepth 20000 in
theorem ggX1_endSeason_X4_copyFrom : GoodIn wsX1_endSeason wsX4_copyFrom := goodIn_r _ [40, 17, 41, 13, 14, 15, 16, 55] (by decide +kernel) (by decide +kernel)
set_option maxRecDepth 20000 in
theorem gX1_endSeason_X4_copyFrom : GoodIn wsX1_endSeason (wsV RX1 71 RX4 yX4_copyFrom wsX4_copyFrom) := goodIn_app (goodIn_of _ (by decide +kernel)) ggX1_endSeason_X4_copyFrom
theorem dX1_endSeason_0 : decode cX1_endSeason 0 = .ok (.iconst 0, 1) := by decide +kernel
theorem dX1_endSeason_1 : decode cX1_endSeason 1 = .ok (.istore_n 1, 1) := by decide +kernel
theorem dX1_endSeason_2 : decode cX1_endSeason 2 = .ok (.aload_n 0, 1) := by decide +kernel
theorem dX1_endSeason_3 : decode cX1_endSeason 3 = .ok (.invokevirtual 107, 3) := by decide +kernel
theorem dX1_endSeason_6 : decode cX1_endSeason 6 = .ok (.istore_n 2, 1) := by decide +kernel
theorem dX1_endSeason_7 : decode cX1_endSeason 7 = .ok (.iconst 0, 1) := by decide +kernel
theorem dX1_endSeason_8 : decode cX1_endSeason 8 = .ok (.istore_n 3, 1) := by decide +kernel
theorem dX1_endSeason_9 : decode cX1_endSeason 9 = .ok (.iload_n 3, 1) := by decide +kernel
theorem dX1_endSeason_10 : decode cX1_endSeason 10 = .ok (.iload_n 2, 1) := by decide +kernel
theorem dX1_endSeason_11 : decode cX1_endSeason 11 = .ok (.if_icmp .ge 31, 3) := by decide +kernel
theorem dX1_endSeason_14 : decode cX1_endSeason 14 = .ok (.aload_n 0, 1) := by decide +kernel
theorem dX1_endSeason_15 : decode cX1_endSeason 15 = .ok (.getfield 26, 3) := by decide +kernel
theorem dX1_endSeason_18 : decode cX1_endSeason 18 = .ok (.iload_n 3, 1) := by decide +kernel
theorem dX1_endSeason_19 : decode cX1_endSeason 19 = .ok (.invokevirtual 75, 3) := by decide +kernel
theorem dX1_endSeason_22 : decode cX1_endSeason 22 = .ok (.ifCond .le 14, 3) := by decide +kernel
theorem dX1_endSeason_25 : decode cX1_endSeason 25 = .ok (.aload_n 0, 1) := by decide +kernel
theorem dX1_endSeason_26 : decode cX1_endSeason 26 = .ok (.iload_n 3, 1) := by decide +kernel
theorem dX1_endSeason_27 : decode cX1_endSeason 27 = .ok (.invokevirtual 110, 3) := by decide +kernel
theorem dX1_endSeason_30 : decode cX1_endSeason 30 = .ok (.ifCond .eq 6, 3) := by decide +kernel
theorem dX1_endSeason_33 : decode cX1_endSeason 33 = .ok (.iinc 1 1, 3) := by decide +kernel
theorem dX1_endSeason_36 : decode cX1_endSeason 36 = .ok (.iinc 3 1, 3) := by decide +kernel
theorem dX1_endSeason_39 : decode cX1_endSeason 39 = .ok (.goto (-30), 3) := by decide +kernel
theorem dX1_endSeason_42 : decode cX1_endSeason 42 = .ok (.aload_n 0, 1) := by decide +kernel
theorem dX1_endSeason_43 : decode cX1_endSeason 43 = .ok (.getfield 23, 3) := by decide +kernel
theorem dX1_endSeason_46 : decode cX1_endSeason 46 = .ok (.aload_n 0, 1) := by decide +kernel
theorem dX1_endSeason_47 : decode cX1_endSeason 47 = .ok (.getfield 20, 3) := by decide +kernel
theorem dX1_endSeason_50 : decode cX1_endSeason 50 = .ok (.invokevirtual 71, 3) := by decide +kernel
theorem dX1_endSeason_53 : decode cX1_endSeason 53 = .ok (.aload_n 0, 1) := by decide +kernel
theorem dX1_endSeason_54 : decode cX1_endSeason 54 = .ok (.dup, 1) := by decide +kernel
theorem dX1_endSeason_55 : decode cX1_endSeason 55 = .ok (.getfield 65, 3) := by decide +kernel
theorem dX1_endSeason_58 : decode cX1_endSeason 58 = .ok (.iconst 1, 1) := by decide +kernel
theorem dX1_endSeason_59 : decode cX1_endSeason 59 = .ok (.iadd, 1) := by decide +kernel
theorem dX1_endSeason_60 : decode cX1_endSeason 60 = .ok (.putfield 65, 3) := by decide +kernel
theorem dX1_endSeason_63 : decode cX1_endSeason 63 = .ok (.iload_n 1, 1) := by decide +kernel
theorem dX1_endSeason_64 : decode cX1_endSeason 64 = .ok (.ireturn, 1) := by decide +kernel
set_option maxRecDepth 20000 in
theorem ggX1_endSeasonOfTuft_X4_at : GoodIn wsX1_endSeasonOfTuft wsX4_at := goodIn_r _ [13, 14, 39] (by decide +kernel) (by decide +kernel)
set_option maxRecDepth 20000 in
theorem gX1_endSeasonOfTuft_X4_at : GoodIn wsX1_endSeasonOfTuft (wsV RX1 75 RX4 yX4_at wsX4_at) := goodIn_app (goodIn_of _ (by decide +kernel)) ggX1_endSeasonOfTuft_X4_at
set_option maxRecDepth 20000 in
theorem ggX1_endSeasonOfTuft_X1_growth : GoodIn wsX1_endSeasonOfTuft wsX1_growth := goodIn_r _ [19, 20, 21, 9, 10, 11, 12, 13, 14, 26, 27, 28, 29, 30, 31, 32, 33, 34, 35, 36, 37, 38, 39] (by decide +kernel) (by decide +kernel)
set_option maxRecDepth 20000 in
theorem gX1_endSeasonOfTuft_X1_growth : GoodIn wsX1_endSeasonOfTuft (wsV RX1 86 RX1 yX1_growth wsX1_growth) := goodIn_app (goodIn_of _ (by decide +kernel)) ggX1_endSeasonOfTuft_X1_growth
set_option maxRecDepth 20000 in
theorem ggX1_endSeasonOfTuft_X4_put : GoodIn wsX1_endSeasonOfTuft wsX4_put := goodIn_r _ [25, 14, 39] (by decide +kernel) (by decide +kernel)
set_option maxRecDepth 20000 in
theorem gX1_endSeasonOfTuft_X4_put : GoodIn wsX1_endSeasonOfTuft (wsV RX1 48 RX4 yX4_put wsX4_put) := goodIn_app (goodIn_of _ (by decide +kernel)) ggX1_endSeasonOfTuft_X4_put
theorem dX1_endSeasonOfTuft_0 : decode cX1_endSeasonOfTuft 0 = .ok (.aload_n 0, 1) := by decide +kernel
theorem dX1_endSeasonOfTuft_1 : decode cX1_endSeasonOfTuft 1 = .ok (.getfield 26, 3) := by decide +kernel
theorem dX1_endSeasonOfTuft_4 : decode cX1_endSeasonOfTuft 4 = .ok (.iload_n 1, 1) := by decide +kernel
theorem dX1_endSeasonOfTuft_5 : decode cX1_endSeasonOfTuft 5 = .ok (.invokevirtual 75, 3) := by decide +kernel
theorem dX1_endSeasonOfTuft_8 : decode cX1_endSeasonOfTuft 8 = .ok (.istore_n 2, 1) := by decide +kernel
theorem dX1_endSeasonOfTuft_9 : decode cX1_endSeasonOfTuft 9 = .ok (.aload_n 0, 1) := by decide +kernel
theorem dX1_endSeasonOfTuft_10 : decode cX1_endSeasonOfTuft 10 = .ok (.iload_n 1, 1) := by decide +kernel
theorem dX1_endSeasonOfTuft_11 : decode cX1_endSeasonOfTuft 11 = .ok (.invokevirtual 86, 3) := by decide +kernel
theorem dX1_endSeasonOfTuft_14 : decode cX1_endSeasonOfTuft 14 = .ok (.istore_n 3, 1) := by decide +kernel
theorem dX1_endSeasonOfTuft_15 : decode cX1_endSeasonOfTuft 15 = .ok (.iload_n 3, 1) := by decide +kernel
theorem dX1_endSeasonOfTuft_16 : decode cX1_endSeasonOfTuft 16 = .ok (.iconst 2, 1) := by decide +kernel
theorem dX1_endSeasonOfTuft_17 : decode cX1_endSeasonOfTuft 17 = .ok (.if_icmp .gt 9, 3) := by decide +kernel
theorem dX1_endSeasonOfTuft_20 : decode cX1_endSeasonOfTuft 20 = .ok (.iload_n 3, 1) := by decide +kernel
theorem dX1_endSeasonOfTuft_21 : decode cX1_endSeasonOfTuft 21 = .ok (.bipush (-2), 2) := by decide +kernel
theorem dX1_endSeasonOfTuft_23 : decode cX1_endSeasonOfTuft 23 = .ok (.if_icmp .ge 21, 3) := by decide +kernel
theorem dX1_endSeasonOfTuft_26 : decode cX1_endSeasonOfTuft 26 = .ok (.aload_n 0, 1) := by decide +kernel
theorem dX1_endSeasonOfTuft_27 : decode cX1_endSeasonOfTuft 27 = .ok (.getfield 26, 3) := by decide +kernel
theorem dX1_endSeasonOfTuft_30 : decode cX1_endSeasonOfTuft 30 = .ok (.iload_n 1, 1) := by decide +kernel
theorem dX1_endSeasonOfTuft_31 : decode cX1_endSeasonOfTuft 31 = .ok (.iload_n 2, 1) := by decide +kernel
theorem dX1_endSeasonOfTuft_32 : decode cX1_endSeasonOfTuft 32 = .ok (.bipush 30, 2) := by decide +kernel
theorem dX1_endSeasonOfTuft_34 : decode cX1_endSeasonOfTuft 34 = .ok (.isub, 1) := by decide +kernel
theorem dX1_endSeasonOfTuft_35 : decode cX1_endSeasonOfTuft 35 = .ok (.iconst 0, 1) := by decide +kernel
theorem dX1_endSeasonOfTuft_36 : decode cX1_endSeasonOfTuft 36 = .ok (.invokestatic 113, 3) := by decide +kernel
theorem dX1_endSeasonOfTuft_39 : decode cX1_endSeasonOfTuft 39 = .ok (.invokevirtual 48, 3) := by decide +kernel
theorem dX1_endSeasonOfTuft_42 : decode cX1_endSeasonOfTuft 42 = .ok (.iconst 1, 1) := by decide +kernel
theorem dX1_endSeasonOfTuft_43 : decode cX1_endSeasonOfTuft 43 = .ok (.ireturn, 1) := by decide +kernel
theorem dX1_endSeasonOfTuft_44 : decode cX1_endSeasonOfTuft 44 = .ok (.aload_n 0, 1) := by decide +kernel
theorem dX1_endSeasonOfTuft_45 : decode cX1_endSeasonOfTuft 45 = .ok (.getfield 26, 3) := by decide +kernel
theorem dX1_endSeasonOfTuft_48 : decode cX1_endSeasonOfTuft 48 = .ok (.iload_n 1, 1) := by decide +kernel
theorem dX1_endSeasonOfTuft_49 : decode cX1_endSeasonOfTuft 49 = .ok (.iload_n 2, 1) := by decide +kernel
theorem dX1_endSeasonOfTuft_50 : decode cX1_endSeasonOfTuft 50 = .ok (.bipush 10, 2) := by decide +kernel
theorem dX1_endSeasonOfTuft_52 : decode cX1_endSeasonOfTuft 52 = .ok (.iadd, 1) := by decide +kernel
theorem dX1_endSeasonOfTuft_53 : decode cX1_endSeasonOfTuft 53 = .ok (.bipush 100, 2) := by decide +kernel
theorem dX1_endSeasonOfTuft_55 : decode cX1_endSeasonOfTuft 55 = .ok (.invokestatic 118, 3) := by decide +kernel
theorem dX1_endSeasonOfTuft_58 : decode cX1_endSeasonOfTuft 58 = .ok (.invokevirtual 48, 3) := by decide +kernel
theorem dX1_endSeasonOfTuft_61 : decode cX1_endSeasonOfTuft 61 = .ok (.iconst 0, 1) := by decide +kernel
theorem dX1_endSeasonOfTuft_62 : decode cX1_endSeasonOfTuft 62 = .ok (.ireturn, 1) := by decide +kernel
set_option maxRecDepth 20000 in
theorem ggX1_sumOfHeights_X1_cells : GoodIn wsX1_sumOfHeights wsX1_cells := goodIn_r _ [6, 7, 8, 15, 16, 17, 18, 19, 20, 21, 22, 23, 24, 25, 26, 27] (by decide +kernel) (by decide +kernel)
set_option maxRecDepth 20000 in
theorem gX1_sumOfHeights_X1_cells : GoodIn wsX1_sumOfHeights (wsV RX1 107 RX1 yX1_cells wsX1_cells) := goodIn_app (goodIn_of _ (by decide +kernel)) ggX1_sumOfHeights_X1_cells
set_option maxRecDepth 20000 in
theorem ggX1_sumOfHeights_X4_at : GoodIn wsX1_sumOfHeights wsX4_at := goodIn_r _ [13, 14, 28] (by decide +kernel) (by decide +kernel)
set_option maxRecDepth 20000 in
theorem gX1_sumOfHeights_X4_at : GoodIn wsX1_sumOfHeights (wsV RX1 75 RX4 yX4_at wsX4_at) := goodIn_app (goodIn_of _ (by decide +kernel)) ggX1_sumOfHeights_X4_at
theorem dX1_sumOfHeights_0 : decode cX1_sumOfHeights 0 = .ok (.iconst 0, 1) := by decide +kernel
theorem dX1_sumOfHeights_1 : decode cX1_sumOfHeights 1 = .ok (.istore_n 1, 1) := by decide +kernel
theorem dX1_sumOfHeights_2 : decode cX1_sumOfHeights 2 = .ok (.aload_n 0, 1) := by decide +kernel
theorem dX1_sumOfHeights_3 : decode cX1_sumOfHeights 3 = .ok (.invokevirtual 107, 3) := by decide +kernel
theorem dX1_sumOfHeights_6 : decode cX1_sumOfHeights 6 = .ok (.istore_n 2, 1) := by decide +kernel
theorem dX1_sumOfHeights_7 : decode cX1_sumOfHeights 7 = .ok (.iconst 0, 1) := by decide +kernel
theorem dX1_sumOfHeights_8 : decode cX1_sumOfHeights 8 = .ok (.istore_n 3, 1) := by decide +kernel
theorem dX1_sumOfHeights_9 : decode cX1_sumOfHeights 9 = .ok (.iload_n 3, 1) := by decide +kernel
theorem dX1_sumOfHeights_10 : decode cX1_sumOfHeights 10 = .ok (.iload_n 2, 1) := by decide +kernel
theorem dX1_sumOfHeights_11 : decode cX1_sumOfHeights 11 = .ok (.if_icmp .ge 20, 3) := by decide +kernel
theorem dX1_sumOfHeights_14 : decode cX1_sumOfHeights 14 = .ok (.iload_n 1, 1) := by decide +kernel
theorem dX1_sumOfHeights_15 : decode cX1_sumOfHeights 15 = .ok (.aload_n 0, 1) := by decide +kernel
theorem dX1_sumOfHeights_16 : decode cX1_sumOfHeights 16 = .ok (.getfield 20, 3) := by decide +kernel
theorem dX1_sumOfHeights_19 : decode cX1_sumOfHeights 19 = .ok (.iload_n 3, 1) := by decide +kernel
theorem dX1_sumOfHeights_20 : decode cX1_sumOfHeights 20 = .ok (.invokevirtual 75, 3) := by decide +kernel
theorem dX1_sumOfHeights_23 : decode cX1_sumOfHeights 23 = .ok (.iadd, 1) := by decide +kernel
theorem dX1_sumOfHeights_24 : decode cX1_sumOfHeights 24 = .ok (.istore_n 1, 1) := by decide +kernel
theorem dX1_sumOfHeights_25 : decode cX1_sumOfHeights 25 = .ok (.iinc 3 1, 3) := by decide +kernel
theorem dX1_sumOfHeights_28 : decode cX1_sumOfHeights 28 = .ok (.goto (-19), 3) := by decide +kernel
theorem dX1_sumOfHeights_31 : decode cX1_sumOfHeights 31 = .ok (.iload_n 1, 1) := by decide +kernel
theorem dX1_sumOfHeights_32 : decode cX1_sumOfHeights 32 = .ok (.ireturn, 1) := by decide +kernel
set_option maxRecDepth 20000 in
theorem ggX1_highestCell_X1_cells : GoodIn wsX1_highestCell wsX1_cells := goodIn_r _ [6, 7, 8, 15, 16, 17, 18, 19, 20, 21, 22, 23, 24, 25, 26, 27] (by decide +kernel) (by decide +kernel)
set_option maxRecDepth 20000 in
theorem gX1_highestCell_X1_cells : GoodIn wsX1_highestCell (wsV RX1 107 RX1 yX1_cells wsX1_cells) := goodIn_app (goodIn_of _ (by decide +kernel)) ggX1_highestCell_X1_cells
set_option maxRecDepth 20000 in
theorem ggX1_highestCell_X4_at : GoodIn wsX1_highestCell wsX4_at := goodIn_r _ [13, 14, 28] (by decide +kernel) (by decide +kernel)
set_option maxRecDepth 20000 in
theorem gX1_highestCell_X4_at : GoodIn wsX1_highestCell (wsV RX1 75 RX4 yX4_at wsX4_at) := goodIn_app (goodIn_of _ (by decide +kernel)) ggX1_highestCell_X4_at
theorem dX1_highestCell_0 : decode cX1_highestCell 0 = .ok (.iconst 0, 1) := by decide +kernel
theorem dX1_highestCell_1 : decode cX1_highestCell 1 = .ok (.istore_n 1, 1) := by decide +kernel
theorem dX1_highestCell_2 : decode cX1_highestCell 2 = .ok (.aload_n 0, 1) := by decide +kernel
theorem dX1_highestCell_3 : decode cX1_highestCell 3 = .ok (.invokevirtual 107, 3) := by decide +kernel
theorem dX1_highestCell_6 : decode cX1_highestCell 6 = .ok (.istore_n 2, 1) := by decide +kernel
theorem dX1_highestCell_7 : decode cX1_highestCell 7 = .ok (.iconst 1, 1) := by decide +kernel
theorem dX1_highestCell_8 : decode cX1_highestCell 8 = .ok (.istore_n 3, 1) := by decide +kernel
theorem dX1_highestCell_9 : decode cX1_highestCell 9 = .ok (.iload_n 3, 1) := by decide +kernel
theorem dX1_highestCell_10 : decode cX1_highestCell 10 = .ok (.iload_n 2, 1) := by decide +kernel
theorem dX1_highestCell_11 : decode cX1_highestCell 11 = .ok (.if_icmp .ge 30, 3) := by decide +kernel
theorem dX1_highestCell_14 : decode cX1_highestCell 14 = .ok (.aload_n 0, 1) := by decide +kernel
theorem dX1_highestCell_15 : decode cX1_highestCell 15 = .ok (.getfield 20, 3) := by decide +kernel
theorem dX1_highestCell_18 : decode cX1_highestCell 18 = .ok (.iload_n 3, 1) := by decide +kernel
theorem dX1_highestCell_19 : decode cX1_highestCell 19 = .ok (.invokevirtual 75, 3) := by decide +kernel
theorem dX1_highestCell_22 : decode cX1_highestCell 22 = .ok (.aload_n 0, 1) := by decide +kernel
theorem dX1_highestCell_23 : decode cX1_highestCell 23 = .ok (.getfield 20, 3) := by decide +kernel
theorem dX1_highestCell_26 : decode cX1_highestCell 26 = .ok (.iload_n 1, 1) := by decide +kernel
theorem dX1_highestCell_27 : decode cX1_highestCell 27 = .ok (.invokevirtual 75, 3) := by decide +kernel
theorem dX1_highestCell_30 : decode cX1_highestCell 30 = .ok (.if_icmp .le 5, 3) := by decide +kernel
theorem dX1_highestCell_33 : decode cX1_highestCell 33 = .ok (.iload_n 3, 1) := by decide +kernel
theorem dX1_highestCell_34 : decode cX1_highestCell 34 = .ok (.istore_n 1, 1) := by decide +kernel
theorem dX1_highestCell_35 : decode cX1_highestCell 35 = .ok (.iinc 3 1, 3) := by decide +kernel
theorem dX1_highestCell_38 : decode cX1_highestCell 38 = .ok (.goto (-29), 3) := by decide +kernel
theorem dX1_highestCell_41 : decode cX1_highestCell 41 = .ok (.iload_n 1, 1) := by decide +kernel
theorem dX1_highestCell_42 : decode cX1_highestCell 42 = .ok (.ireturn, 1) := by decide +kernel
set_option maxRecDepth 20000 in
theorem ggX1_steepest_X1_cells : GoodIn wsX1_steepest wsX1_cells := goodIn_r _ [13, 14, 15, 26, 27, 28, 29, 30, 31, 32, 33, 34, 35, 36, 37, 38] (by decide +kernel) (by decide +kernel)
set_option maxRecDepth 20000 in
theorem gX1_steepest_X1_cells : GoodIn wsX1_steepest (wsV RX1 107 RX1 yX1_cells wsX1_cells) := goodIn_app (goodIn_of _ (by decide +kernel)) ggX1_steepest_X1_cells
set_option maxRecDepth 20000 in
theorem ggX1_steepest_X4_at : GoodIn wsX1_steepest wsX4_at := goodIn_r _ [20, 21, 39] (by decide +kernel) (by decide +kernel)
set_option maxRecDepth 20000 in
theorem gX1_steepest_X4_at : GoodIn wsX1_steepest (wsV RX1 75 RX4 yX4_at wsX4_at) := goodIn_app (goodIn_of _ (by decide +kernel)) ggX1_steepest_X4_at
set_option maxRecDepth 20000 in
theorem ggX1_steepest_X1_neighbor : GoodIn wsX1_steepest wsX1_neighbor := goodIn_r _ [25, 15, 14, 26, 27, 28, 29, 30, 31, 32, 33, 34, 35, 36, 37, 38] (by decide +kernel) (by decide +kernel)
set_option maxRecDepth 20000 in
theorem gX1_steepest_X1_neighbor : GoodIn wsX1_steepest (wsV RX1 96 RX1 yX1_neighbor wsX1_neighbor) := goodIn_app (goodIn_of _ (by decide +kernel)) ggX1_steepest_X1_neighbor
theorem dX1_steepest_0 : decode cX1_steepest 0 = .ok (.iconst 0, 1) := by decide +kernel
theorem dX1_steepest_1 : decode cX1_steepest 1 = .ok (.istore_n 1, 1) := by decide +kernel
theorem dX1_steepest_2 : decode cX1_steepest 2 = .ok (.aload_n 0, 1) := by decide +kernel
theorem dX1_steepest_3 : decode cX1_steepest 3 = .ok (.invokevirtual 107, 3) := by decide +kernel
theorem dX1_steepest_6 : decode cX1_steepest 6 = .ok (.istore_n 2, 1) := by decide +kernel
theorem dX1_steepest_7 : decode cX1_steepest 7 = .ok (.iconst 0, 1) := by decide +kernel
theorem dX1_steepest_8 : decode cX1_steepest 8 = .ok (.istore_n 3, 1) := by decide +kernel
theorem dX1_steepest_9 : decode cX1_steepest 9 = .ok (.iload_n 3, 1) := by decide +kernel
theorem dX1_steepest_10 : decode cX1_steepest 10 = .ok (.iload_n 2, 1) := by decide +kernel
theorem dX1_steepest_11 : decode cX1_steepest 11 = .ok (.if_icmp .ge 73, 3) := by decide +kernel
theorem dX1_steepest_14 : decode cX1_steepest 14 = .ok (.aload_n 0, 1) := by decide +kernel
theorem dX1_steepest_15 : decode cX1_steepest 15 = .ok (.getfield 20, 3) := by decide +kernel
theorem dX1_steepest_18 : decode cX1_steepest 18 = .ok (.iload_n 3, 1) := by decide +kernel
theorem dX1_steepest_19 : decode cX1_steepest 19 = .ok (.invokevirtual 75, 3) := by decide +kernel
theorem dX1_steepest_22 : decode cX1_steepest 22 = .ok (.istore 4, 2) := by decide +kernel
theorem dX1_steepest_24 : decode cX1_steepest 24 = .ok (.iload 4, 2) := by decide +kernel
theorem dX1_steepest_26 : decode cX1_steepest 26 = .ok (.aload_n 0, 1) := by decide +kernel
theorem dX1_steepest_27 : decode cX1_steepest 27 = .ok (.getfield 20, 3) := by decide +kernel
theorem dX1_steepest_30 : decode cX1_steepest 30 = .ok (.aload_n 0, 1) := by decide +kernel
theorem dX1_steepest_31 : decode cX1_steepest 31 = .ok (.iload_n 3, 1) := by decide +kernel
theorem dX1_steepest_32 : decode cX1_steepest 32 = .ok (.iconst 1, 1) := by decide +kernel
theorem dX1_steepest_33 : decode cX1_steepest 33 = .ok (.invokevirtual 96, 3) := by decide +kernel
theorem dX1_steepest_36 : decode cX1_steepest 36 = .ok (.invokevirtual 75, 3) := by decide +kernel
theorem dX1_steepest_39 : decode cX1_steepest 39 = .ok (.isub, 1) := by decide +kernel
theorem dX1_steepest_40 : decode cX1_steepest 40 = .ok (.invokestatic 121, 3) := by decide +kernel
theorem dX1_steepest_43 : decode cX1_steepest 43 = .ok (.istore 5, 2) := by decide +kernel
theorem dX1_steepest_45 : decode cX1_steepest 45 = .ok (.iload 4, 2) := by decide +kernel
theorem dX1_steepest_47 : decode cX1_steepest 47 = .ok (.aload_n 0, 1) := by decide +kernel
theorem dX1_steepest_48 : decode cX1_steepest 48 = .ok (.getfield 20, 3) := by decide +kernel
theorem dX1_steepest_51 : decode cX1_steepest 51 = .ok (.aload_n 0, 1) := by decide +kernel
theorem dX1_steepest_52 : decode cX1_steepest 52 = .ok (.iload_n 3, 1) := by decide +kernel
theorem dX1_steepest_53 : decode cX1_steepest 53 = .ok (.iconst 2, 1) := by decide +kernel
theorem dX1_steepest_54 : decode cX1_steepest 54 = .ok (.invokevirtual 96, 3) := by decide +kernel
theorem dX1_steepest_57 : decode cX1_steepest 57 = .ok (.invokevirtual 75, 3) := by decide +kernel
theorem dX1_steepest_60 : decode cX1_steepest 60 = .ok (.isub, 1) := by decide +kernel
theorem dX1_steepest_61 : decode cX1_steepest 61 = .ok (.invokestatic 121, 3) := by decide +kernel
theorem dX1_steepest_64 : decode cX1_steepest 64 = .ok (.istore 6, 2) := by decide +kernel
theorem dX1_steepest_66 : decode cX1_steepest 66 = .ok (.iload_n 1, 1) := by decide +kernel
theorem dX1_steepest_67 : decode cX1_steepest 67 = .ok (.iload 5, 2) := by decide +kernel
theorem dX1_steepest_69 : decode cX1_steepest 69 = .ok (.iload 6, 2) := by decide +kernel
theorem dX1_steepest_71 : decode cX1_steepest 71 = .ok (.invokestatic 113, 3) := by decide +kernel
theorem dX1_steepest_74 : decode cX1_steepest 74 = .ok (.invokestatic 113, 3) := by decide +kernel
theorem dX1_steepest_77 : decode cX1_steepest 77 = .ok (.istore_n 1, 1) := by decide +kernel
theorem dX1_steepest_78 : decode cX1_steepest 78 = .ok (.iinc 3 1, 3) := by decide +kernel
theorem dX1_steepest_81 : decode cX1_steepest 81 = .ok (.goto (-72), 3) := by decide +kernel
theorem dX1_steepest_84 : decode cX1_steepest 84 = .ok (.iload_n 1, 1) := by decide +kernel
theorem dX1_steepest_85 : decode cX1_steepest 85 = .ok (.ireturn, 1) := by decide +kernel
set_option maxRecDepth 20000 in
theorem ggX1_bareCells_X1_cells : GoodIn wsX1_bareCells wsX1_cells := goodIn_r _ [6, 7, 8, 15, 16, 17, 18, 19, 20, 21, 22, 23, 24, 25, 26, 27] (by decide +kernel) (by decide +kernel)
set_option maxRecDepth 20000 in
theorem gX1_bareCells_X1_cells : GoodIn wsX1_bareCells (wsV RX1 107 RX1 yX1_cells wsX1_cells) := goodIn_app (goodIn_of _ (by decide +kernel)) ggX1_bareCells_X1_cells
set_option maxRecDepth 20000 in
theorem ggX1_bareCells_X4_at : GoodIn wsX1_bareCells wsX4_at := goodIn_r _ [13, 14, 28] (by decide +kernel) (by decide +kernel)
set_option maxRecDepth 20000 in
theorem gX1_bareCells_X4_at : GoodIn wsX1_bareCells (wsV RX1 75 RX4 yX4_at wsX4_at) := goodIn_app (goodIn_of _ (by decide +kernel)) ggX1_bareCells_X4_at
theorem dX1_bareCells_0 : decode cX1_bareCells 0 = .ok (.iconst 0, 1) := by decide +kernel
theorem dX1_bareCells_1 : decode cX1_bareCells 1 = .ok (.istore_n 1, 1) := by decide +kernel
theorem dX1_bareCells_2 : decode cX1_bareCells 2 = .ok (.aload_n 0, 1) := by decide +kernel
theorem dX1_bareCells_3 : decode cX1_bareCells 3 = .ok (.invokevirtual 107, 3) := by decide +kernel
theorem dX1_bareCells_6 : decode cX1_bareCells 6 = .ok (.istore_n 2, 1) := by decide +kernel
theorem dX1_bareCells_7 : decode cX1_bareCells 7 = .ok (.iconst 0, 1) := by decide +kernel
theorem dX1_bareCells_8 : decode cX1_bareCells 8 = .ok (.istore_n 3, 1) := by decide +kernel
theorem dX1_bareCells_9 : decode cX1_bareCells 9 = .ok (.iload_n 3, 1) := by decide +kernel
theorem dX1_bareCells_10 : decode cX1_bareCells 10 = .ok (.iload_n 2, 1) := by decide +kernel
theorem dX1_bareCells_11 : decode cX1_bareCells 11 = .ok (.if_icmp .ge 23, 3) := by decide +kernel
theorem dX1_bareCells_14 : decode cX1_bareCells 14 = .ok (.aload_n 0, 1) := by decide +kernel
theorem dX1_bareCells_15 : decode cX1_bareCells 15 = .ok (.getfield 20, 3) := by decide +kernel
theorem dX1_bareCells_18 : decode cX1_bareCells 18 = .ok (.iload_n 3, 1) := by decide +kernel
theorem dX1_bareCells_19 : decode cX1_bareCells 19 = .ok (.invokevirtual 75, 3) := by decide +kernel
theorem dX1_bareCells_22 : decode cX1_bareCells 22 = .ok (.ifCond .ne 6, 3) := by decide +kernel
theorem dX1_bareCells_25 : decode cX1_bareCells 25 = .ok (.iinc 1 1, 3) := by decide +kernel
theorem dX1_bareCells_28 : decode cX1_bareCells 28 = .ok (.iinc 3 1, 3) := by decide +kernel
theorem dX1_bareCells_31 : decode cX1_bareCells 31 = .ok (.goto (-22), 3) := by decide +kernel
theorem dX1_bareCells_34 : decode cX1_bareCells 34 = .ok (.iload_n 1, 1) := by decide +kernel
theorem dX1_bareCells_35 : decode cX1_bareCells 35 = .ok (.ireturn, 1) := by decide +kernel
set_option maxRecDepth 20000 in
theorem ggX1_meanShadowHeight_X1_cells : GoodIn wsX1_meanShadowHeight wsX1_cells := goodIn_r _ [6, 7, 8, 28, 29, 30, 31, 32, 33, 34, 35, 36, 37, 38, 39, 40] (by decide +kernel) (by decide +kernel)
set_option maxRecDepth 20000 in
theorem gX1_meanShadowHeight_X1_cells : GoodIn wsX1_meanShadowHeight (wsV RX1 107 RX1 yX1_cells wsX1_cells) := goodIn_app (goodIn_of _ (by decide +kernel)) ggX1_meanShadowHeight_X1_cells
set_option maxRecDepth 20000 in
theorem ggX1_meanShadowHeight_X1_inShadow : GoodIn wsX1_meanShadowHeight wsX1_inShadow := goodIn_r _ [12, 7, 8, 1, 13, 14, 15, 5, 16, 17, 18, 19, 20, 21, 22, 23, 24, 25, 26, 27, 28, 29, 30, 31, 32, 33, 34, 35, 36, 37, 38, 39, 40, 41] (by decide +kernel) (by decide +kernel)
set_option maxRecDepth 20000 in
theorem gX1_meanShadowHeight_X1_inShadow : GoodIn wsX1_meanShadowHeight (wsV RX1 82 RX1 yX1_inShadow wsX1_inShadow) := goodIn_app (goodIn_of _ (by decide +kernel)) ggX1_meanShadowHeight_X1_inShadow
set_option maxRecDepth 20000 in
theorem ggX1_meanShadowHeight_X4_at : GoodIn wsX1_meanShadowHeight wsX4_at := goodIn_r _ [22, 23, 41] (by decide +kernel) (by decide +kernel)
set_option maxRecDepth 20000 in
theorem gX1_meanShadowHeight_X4_at : GoodIn wsX1_meanShadowHeight (wsV RX1 75 RX4 yX4_at wsX4_at) := goodIn_app (goodIn_of _ (by decide +kernel)) ggX1_meanShadowHeight_X4_at
theorem dX1_meanShadowHeight_0 : decode cX1_meanShadowHeight 0 = .ok (.iconst 0, 1) := by decide +kernel
theorem dX1_meanShadowHeight_1 : decode cX1_meanShadowHeight 1 = .ok (.istore_n 1, 1) := by decide +kernel
theorem dX1_meanShadowHeight_2 : decode cX1_meanShadowHeight 2 = .ok (.iconst 0, 1) := by decide +kernel
theorem dX1_meanShadowHeight_3 : decode cX1_meanShadowHeight 3 = .ok (.istore_n 2, 1) := by decide +kernel
theorem dX1_meanShadowHeight_4 : decode cX1_meanShadowHeight 4 = .ok (.aload_n 0, 1) := by decide +kernel
theorem dX1_meanShadowHeight_5 : decode cX1_meanShadowHeight 5 = .ok (.invokevirtual 107, 3) := by decide +kernel
theorem dX1_meanShadowHeight_8 : decode cX1_meanShadowHeight 8 = .ok (.istore_n 3, 1) := by decide +kernel
theorem dX1_meanShadowHeight_9 : decode cX1_meanShadowHeight 9 = .ok (.iconst 0, 1) := by decide +kernel
theorem dX1_meanShadowHeight_10 : decode cX1_meanShadowHeight 10 = .ok (.istore 4, 2) := by decide +kernel
theorem dX1_meanShadowHeight_12 : decode cX1_meanShadowHeight 12 = .ok (.iload 4, 2) := by decide +kernel
theorem dX1_meanShadowHeight_14 : decode cX1_meanShadowHeight 14 = .ok (.iload_n 3, 1) := by decide +kernel
theorem dX1_meanShadowHeight_15 : decode cX1_meanShadowHeight 15 = .ok (.if_icmp .ge 33, 3) := by decide +kernel
theorem dX1_meanShadowHeight_18 : decode cX1_meanShadowHeight 18 = .ok (.aload_n 0, 1) := by decide +kernel
theorem dX1_meanShadowHeight_19 : decode cX1_meanShadowHeight 19 = .ok (.iload 4, 2) := by decide +kernel
theorem dX1_meanShadowHeight_21 : decode cX1_meanShadowHeight 21 = .ok (.invokevirtual 82, 3) := by decide +kernel
theorem dX1_meanShadowHeight_24 : decode cX1_meanShadowHeight 24 = .ok (.ifCond .eq 18, 3) := by decide +kernel
theorem dX1_meanShadowHeight_27 : decode cX1_meanShadowHeight 27 = .ok (.iload_n 1, 1) := by decide +kernel
theorem dX1_meanShadowHeight_28 : decode cX1_meanShadowHeight 28 = .ok (.aload_n 0, 1) := by decide +kernel
theorem dX1_meanShadowHeight_29 : decode cX1_meanShadowHeight 29 = .ok (.getfield 20, 3) := by decide +kernel
theorem dX1_meanShadowHeight_32 : decode cX1_meanShadowHeight 32 = .ok (.iload 4, 2) := by decide +kernel
theorem dX1_meanShadowHeight_34 : decode cX1_meanShadowHeight 34 = .ok (.invokevirtual 75, 3) := by decide +kernel
theorem dX1_meanShadowHeight_37 : decode cX1_meanShadowHeight 37 = .ok (.iadd, 1) := by decide +kernel
theorem dX1_meanShadowHeight_38 : decode cX1_meanShadowHeight 38 = .ok (.istore_n 1, 1) := by decide +kernel
theorem dX1_meanShadowHeight_39 : decode cX1_meanShadowHeight 39 = .ok (.iinc 2 1, 3) := by decide +kernel
theorem dX1_meanShadowHeight_42 : decode cX1_meanShadowHeight 42 = .ok (.iinc 4 1, 3) := by decide +kernel
theorem dX1_meanShadowHeight_45 : decode cX1_meanShadowHeight 45 = .ok (.goto (-33), 3) := by decide +kernel
theorem dX1_meanShadowHeight_48 : decode cX1_meanShadowHeight 48 = .ok (.iload_n 2, 1) := by decide +kernel
theorem dX1_meanShadowHeight_49 : decode cX1_meanShadowHeight 49 = .ok (.ifCond .le 11, 3) := by decide +kernel
theorem dX1_meanShadowHeight_52 : decode cX1_meanShadowHeight 52 = .ok (.iload_n 1, 1) := by decide +kernel
theorem dX1_meanShadowHeight_53 : decode cX1_meanShadowHeight 53 = .ok (.i2d, 1) := by decide +kernel
theorem dX1_meanShadowHeight_54 : decode cX1_meanShadowHeight 54 = .ok (.iload_n 2, 1) := by decide +kernel
theorem dX1_meanShadowHeight_55 : decode cX1_meanShadowHeight 55 = .ok (.i2d, 1) := by decide +kernel
theorem dX1_meanShadowHeight_56 : decode cX1_meanShadowHeight 56 = .ok (.ddiv, 1) := by decide +kernel
theorem dX1_meanShadowHeight_57 : decode cX1_meanShadowHeight 57 = .ok (.goto 4, 3) := by decide +kernel
theorem dX1_meanShadowHeight_60 : decode cX1_meanShadowHeight 60 = .ok (.dconst 0, 1) := by decide +kernel
theorem dX1_meanShadowHeight_61 : decode cX1_meanShadowHeight 61 = .ok (.dreturn, 1) := by decide +kernel
set_option maxRecDepth 20000 in
theorem ggX2_init_X4_init : GoodIn wsX2_init wsX4_init := goodIn_r _ [10, 11, 2, 3, 12, 13, 14] (by decide +kernel) (by decide +kernel)
set_option maxRecDepth 20000 in
theorem gX2_init_X4_init : GoodIn wsX2_init (wsX4_init) := ggX2_init_X4_init
theorem dX2_init_0 : decode cX2_init 0 = .ok (.aload_n 0, 1) := by decide +kernel
theorem dX2_init_1 : decode cX2_init 1 = .ok (.invokespecial 3, 3) := by decide +kernel
theorem dX2_init_4 : decode cX2_init 4 = .ok (.aload_n 0, 1) := by decide +kernel
theorem dX2_init_5 : decode cX2_init 5 = .ok (.new 9, 3) := by decide +kernel
theorem dX2_init_8 : decode cX2_init 8 = .ok (.dup, 1) := by decide +kernel
theorem dX2_init_9 : decode cX2_init 9 = .ok (.sipush 220, 3) := by decide +kernel
theorem dX2_init_12 : decode cX2_init 12 = .ok (.invokespecial 11, 3) := by decide +kernel
theorem dX2_init_15 : decode cX2_init 15 = .ok (.putfield 14, 3) := by decide +kernel
theorem dX2_init_18 : decode cX2_init 18 = .ok (.return_, 1) := by decide +kernel
set_option maxRecDepth 20000 in
theorem ggX3_init_X1_init : GoodIn wsX3_init wsX1_init := goodIn_r _ [10, 11, 2, 3, 12, 13, 14, 15, 16, 17, 18, 19, 20, 21, 22, 23, 24, 25, 26, 27, 28, 29, 30, 31, 7, 32, 33, 34, 35, 36, 37, 38, 39, 40, 41, 42, 43, 44, 45, 46, 47, 48, 49, 66, 53, 54, 55, 56, 57, 58, 59, 60, 61, 62, 63, 64, 65] (by decide +kernel) (by decide +kernel)
set_option maxRecDepth 20000 in
theorem gX3_init_X1_init : GoodIn wsX3_init (wsX1_init) := ggX3_init_X1_init
theorem dX3_init_0 : decode cX3_init 0 = .ok (.aload_n 0, 1) := by decide +kernel
theorem dX3_init_1 : decode cX3_init 1 = .ok (.invokespecial 3, 3) := by decide +kernel
theorem dX3_init_4 : decode cX3_init 4 = .ok (.aload_n 0, 1) := by decide +kernel
theorem dX3_init_5 : decode cX3_init 5 = .ok (.iconst 4, 1) := by decide +kernel
theorem dX3_init_6 : decode cX3_init 6 = .ok (.anewarray 9, 3) := by decide +kernel
theorem dX3_init_9 : decode cX3_init 9 = .ok (.putfield 11, 3) := by decide +kernel
theorem dX3_init_12 : decode cX3_init 12 = .ok (.iconst 0, 1) := by decide +kernel
theorem dX3_init_13 : decode cX3_init 13 = .ok (.istore_n 1, 1) := by decide +kernel
theorem dX3_init_14 : decode cX3_init 14 = .ok (.iload_n 1, 1) := by decide +kernel
theorem dX3_init_15 : decode cX3_init 15 = .ok (.aload_n 0, 1) := by decide +kernel
theorem dX3_init_16 : decode cX3_init 16 = .ok (.getfield 11, 3) := by decide +kernel
theorem dX3_init_19 : decode cX3_init 19 = .ok (.arraylength, 1) := by decide +kernel
theorem dX3_init_20 : decode cX3_init 20 = .ok (.if_icmp .ge 22, 3) := by decide +kernel
theorem dX3_init_23 : decode cX3_init 23 = .ok (.aload_n 0, 1) := by decide +kernel
theorem dX3_init_24 : decode cX3_init 24 = .ok (.getfield 11, 3) := by decide +kernel
theorem dX3_init_27 : decode cX3_init 27 = .ok (.iload_n 1, 1) := by decide +kernel
theorem dX3_init_28 : decode cX3_init 28 = .ok (.new 9, 3) := by decide +kernel
theorem dX3_init_31 : decode cX3_init 31 = .ok (.dup, 1) := by decide +kernel
theorem dX3_init_32 : decode cX3_init 32 = .ok (.invokespecial 17, 3) := by decide +kernel
theorem dX3_init_35 : decode cX3_init 35 = .ok (.aastore, 1) := by decide +kernel
theorem dX3_init_36 : decode cX3_init 36 = .ok (.iinc 1 1, 3) := by decide +kernel
theorem dX3_init_39 : decode cX3_init 39 = .ok (.goto (-25), 3) := by decide +kernel
theorem dX3_init_42 : decode cX3_init 42 = .ok (.return_, 1) := by decide +kernel
set_option maxRecDepth 20000 in
theorem ggX3_save_X3_stateAt : GoodIn wsX3_save wsX3_stateAt := goodIn_r _ [7, 2, 8, 37, 38, 39] (by decide +kernel) (by decide +kernel)
set_option maxRecDepth 20000 in
theorem gX3_save_X3_stateAt : GoodIn wsX3_save (wsV RX3 25 RX3 yX3_stateAt wsX3_stateAt) := goodIn_app (goodIn_of _ (by decide +kernel)) ggX3_save_X3_stateAt
set_option maxRecDepth 20000 in
theorem ggX3_save_X1_copyFrom : GoodIn wsX3_save wsX1_copyFrom := goodIn_r _ [13, 14, 15, 16, 17, 18, 19, 20, 21, 22, 23, 24, 25, 26, 27, 28, 29, 30, 31, 32, 33, 34, 35, 36, 40, 41, 42, 43, 44, 45, 46, 47, 48, 49, 50, 51, 52, 53] (by decide +kernel) (by decide +kernel)
set_option maxRecDepth 20000 in
theorem gX3_save_X1_copyFrom : GoodIn wsX3_save (wsV RX3 29 RX1 yX1_copyFrom wsX1_copyFrom) := goodIn_app (goodIn_of _ (by decide +kernel)) ggX3_save_X1_copyFrom
theorem dX3_save_0 : decode cX3_save 0 = .ok (.aload_n 0, 1) := by decide +kernel
theorem dX3_save_1 : decode cX3_save 1 = .ok (.getfield 18, 3) := by decide +kernel
theorem dX3_save_4 : decode cX3_save 4 = .ok (.iconst 4, 1) := by decide +kernel
theorem dX3_save_5 : decode cX3_save 5 = .ok (.if_icmp .ne 25, 3) := by decide +kernel
theorem dX3_save_8 : decode cX3_save 8 = .ok (.aload_n 0, 1) := by decide +kernel
theorem dX3_save_9 : decode cX3_save 9 = .ok (.aload_n 0, 1) := by decide +kernel
theorem dX3_save_10 : decode cX3_save 10 = .ok (.getfield 22, 3) := by decide +kernel
theorem dX3_save_13 : decode cX3_save 13 = .ok (.iconst 1, 1) := by decide +kernel
theorem dX3_save_14 : decode cX3_save 14 = .ok (.iadd, 1) := by decide +kernel
theorem dX3_save_15 : decode cX3_save 15 = .ok (.iconst 4, 1) := by decide +kernel
theorem dX3_save_16 : decode cX3_save 16 = .ok (.irem, 1) := by decide +kernel
theorem dX3_save_17 : decode cX3_save 17 = .ok (.putfield 22, 3) := by decide +kernel
theorem dX3_save_20 : decode cX3_save 20 = .ok (.aload_n 0, 1) := by decide +kernel
theorem dX3_save_21 : decode cX3_save 21 = .ok (.dup, 1) := by decide +kernel
theorem dX3_save_22 : decode cX3_save 22 = .ok (.getfield 18, 3) := by decide +kernel
theorem dX3_save_25 : decode cX3_save 25 = .ok (.iconst 1, 1) := by decide +kernel
theorem dX3_save_26 : decode cX3_save 26 = .ok (.isub, 1) := by decide +kernel
theorem dX3_save_27 : decode cX3_save 27 = .ok (.putfield 18, 3) := by decide +kernel
theorem dX3_save_30 : decode cX3_save 30 = .ok (.aload_n 0, 1) := by decide +kernel
theorem dX3_save_31 : decode cX3_save 31 = .ok (.aload_n 0, 1) := by decide +kernel
theorem dX3_save_32 : decode cX3_save 32 = .ok (.getfield 18, 3) := by decide +kernel
theorem dX3_save_35 : decode cX3_save 35 = .ok (.invokevirtual 25, 3) := by decide +kernel
theorem dX3_save_38 : decode cX3_save 38 = .ok (.astore_n 2, 1) := by decide +kernel
theorem dX3_save_39 : decode cX3_save 39 = .ok (.aload_n 2, 1) := by decide +kernel
theorem dX3_save_40 : decode cX3_save 40 = .ok (.ifnull 8, 3) := by decide +kernel
theorem dX3_save_43 : decode cX3_save 43 = .ok (.aload_n 2, 1) := by decide +kernel
theorem dX3_save_44 : decode cX3_save 44 = .ok (.aload_n 1, 1) := by decide +kernel
theorem dX3_save_45 : decode cX3_save 45 = .ok (.invokevirtual 29, 3) := by decide +kernel
theorem dX3_save_48 : decode cX3_save 48 = .ok (.aload_n 0, 1) := by decide +kernel
theorem dX3_save_49 : decode cX3_save 49 = .ok (.dup, 1) := by decide +kernel
theorem dX3_save_50 : decode cX3_save 50 = .ok (.getfield 18, 3) := by decide +kernel
theorem dX3_save_53 : decode cX3_save 53 = .ok (.iconst 1, 1) := by decide +kernel
theorem dX3_save_54 : decode cX3_save 54 = .ok (.iadd, 1) := by decide +kernel
theorem dX3_save_55 : decode cX3_save 55 = .ok (.putfield 18, 3) := by decide +kernel
theorem dX3_save_58 : decode cX3_save 58 = .ok (.return_, 1) := by decide +kernel
set_option maxRecDepth 20000 in
theorem ggX3_restore_X3_stateAt : GoodIn wsX3_restore wsX3_stateAt := goodIn_r _ [6, 7, 8, 37, 38, 39] (by decide +kernel) (by decide +kernel)
set_option maxRecDepth 20000 in
theorem gX3_restore_X3_stateAt : GoodIn wsX3_restore (wsV RX3 25 RX3 yX3_stateAt wsX3_stateAt) := goodIn_app (goodIn_of _ (by decide +kernel)) ggX3_restore_X3_stateAt
set_option maxRecDepth 20000 in
theorem ggX3_restore_X1_copyFrom : GoodIn wsX3_restore wsX1_copyFrom := goodIn_r _ [13, 14, 15, 16, 17, 18, 19, 20, 21, 22, 23, 24, 25, 26, 27, 28, 29, 30, 31, 32, 33, 34, 35, 36, 40, 41, 42, 43, 44, 45, 46, 47, 48, 49, 50, 51, 52, 53] (by decide +kernel) (by decide +kernel)
set_option maxRecDepth 20000 in
theorem gX3_restore_X1_copyFrom : GoodIn wsX3_restore (wsV RX3 29 RX1 yX1_copyFrom wsX1_copyFrom) := goodIn_app (goodIn_of _ (by decide +kernel)) ggX3_restore_X1_copyFrom
theorem dX3_restore_0 : decode cX3_restore 0 = .ok (.aload_n 0, 1) := by decide +kernel
theorem dX3_restore_1 : decode cX3_restore 1 = .ok (.dup, 1) := by decide +kernel
theorem dX3_restore_2 : decode cX3_restore 2 = .ok (.getfield 18, 3) := by decide +kernel
theorem dX3_restore_5 : decode cX3_restore 5 = .ok (.iconst 1, 1) := by decide +kernel
theorem dX3_restore_6 : decode cX3_restore 6 = .ok (.isub, 1) := by decide +kernel
theorem dX3_restore_7 : decode cX3_restore 7 = .ok (.putfield 18, 3) := by decide +kernel
theorem dX3_restore_10 : decode cX3_restore 10 = .ok (.aload_n 0, 1) := by decide +kernel
theorem dX3_restore_11 : decode cX3_restore 11 = .ok (.aload_n 0, 1) := by decide +kernel
theorem dX3_restore_12 : decode cX3_restore 12 = .ok (.getfield 18, 3) := by decide +kernel
theorem dX3_restore_15 : decode cX3_restore 15 = .ok (.invokevirtual 25, 3) := by decide +kernel
theorem dX3_restore_18 : decode cX3_restore 18 = .ok (.astore_n 2, 1) := by decide +kernel
theorem dX3_restore_19 : decode cX3_restore 19 = .ok (.aload_n 2, 1) := by decide +kernel
theorem dX3_restore_20 : decode cX3_restore 20 = .ok (.ifnull 8, 3) := by decide +kernel
theorem dX3_restore_23 : decode cX3_restore 23 = .ok (.aload_n 1, 1) := by decide +kernel
theorem dX3_restore_24 : decode cX3_restore 24 = .ok (.aload_n 2, 1) := by decide +kernel
theorem dX3_restore_25 : decode cX3_restore 25 = .ok (.invokevirtual 29, 3) := by decide +kernel
theorem dX3_restore_28 : decode cX3_restore 28 = .ok (.return_, 1) := by decide +kernel
theorem dX3_stateAt_0 : decode cX3_stateAt 0 = .ok (.aload_n 0, 1) := by decide +kernel
theorem dX3_stateAt_1 : decode cX3_stateAt 1 = .ok (.getfield 22, 3) := by decide +kernel
theorem dX3_stateAt_4 : decode cX3_stateAt 4 = .ok (.iload_n 1, 1) := by decide +kernel
theorem dX3_stateAt_5 : decode cX3_stateAt 5 = .ok (.iadd, 1) := by decide +kernel
theorem dX3_stateAt_6 : decode cX3_stateAt 6 = .ok (.iconst 4, 1) := by decide +kernel
theorem dX3_stateAt_7 : decode cX3_stateAt 7 = .ok (.irem, 1) := by decide +kernel
theorem dX3_stateAt_8 : decode cX3_stateAt 8 = .ok (.istore_n 2, 1) := by decide +kernel
theorem dX3_stateAt_9 : decode cX3_stateAt 9 = .ok (.iload_n 2, 1) := by decide +kernel
theorem dX3_stateAt_10 : decode cX3_stateAt 10 = .ok (.ifCond .lt 21, 3) := by decide +kernel
theorem dX3_stateAt_13 : decode cX3_stateAt 13 = .ok (.iload_n 2, 1) := by decide +kernel
theorem dX3_stateAt_14 : decode cX3_stateAt 14 = .ok (.aload_n 0, 1) := by decide +kernel
theorem dX3_stateAt_15 : decode cX3_stateAt 15 = .ok (.getfield 11, 3) := by decide +kernel
theorem dX3_stateAt_18 : decode cX3_stateAt 18 = .ok (.arraylength, 1) := by decide +kernel
theorem dX3_stateAt_19 : decode cX3_stateAt 19 = .ok (.if_icmp .ge 12, 3) := by decide +kernel
theorem dX3_stateAt_22 : decode cX3_stateAt 22 = .ok (.aload_n 0, 1) := by decide +kernel
theorem dX3_stateAt_23 : decode cX3_stateAt 23 = .ok (.getfield 11, 3) := by decide +kernel
theorem dX3_stateAt_26 : decode cX3_stateAt 26 = .ok (.iload_n 2, 1) := by decide +kernel
theorem dX3_stateAt_27 : decode cX3_stateAt 27 = .ok (.aaload, 1) := by decide +kernel
theorem dX3_stateAt_28 : decode cX3_stateAt 28 = .ok (.goto 4, 3) := by decide +kernel
theorem dX3_stateAt_31 : decode cX3_stateAt 31 = .ok (.aconst_null, 1) := by decide +kernel
theorem dX3_stateAt_32 : decode cX3_stateAt 32 = .ok (.areturn, 1) := by decide +kernel
theorem dX4_init_0 : decode cX4_init 0 = .ok (.aload_n 0, 1) := by decide +kernel
theorem dX4_init_1 : decode cX4_init 1 = .ok (.invokespecial 1, 3) := by decide +kernel
theorem dX4_init_4 : decode cX4_init 4 = .ok (.aload_n 0, 1) := by decide +kernel
theorem dX4_init_5 : decode cX4_init 5 = .ok (.iload_n 1, 1) := by decide +kernel
theorem dX4_init_6 : decode cX4_init 6 = .ok (.ifCond .le 7, 3) := by decide +kernel
theorem dX4_init_9 : decode cX4_init 9 = .ok (.iload_n 1, 1) := by decide +kernel
theorem dX4_init_10 : decode cX4_init 10 = .ok (.goto 4, 3) := by decide +kernel
theorem dX4_init_13 : decode cX4_init 13 = .ok (.iconst 0, 1) := by decide +kernel
theorem dX4_init_14 : decode cX4_init 14 = .ok (.newarray .int, 2) := by decide +kernel
theorem dX4_init_16 : decode cX4_init 16 = .ok (.putfield 7, 3) := by decide +kernel
theorem dX4_init_19 : decode cX4_init 19 = .ok (.return_, 1) := by decide +kernel
theorem dX4_at_0 : decode cX4_at 0 = .ok (.iload_n 1, 1) := by decide +kernel
theorem dX4_at_1 : decode cX4_at 1 = .ok (.ifCond .lt 21, 3) := by decide +kernel
theorem dX4_at_4 : decode cX4_at 4 = .ok (.iload_n 1, 1) := by decide +kernel
theorem dX4_at_5 : decode cX4_at 5 = .ok (.aload_n 0, 1) := by decide +kernel
theorem dX4_at_6 : decode cX4_at 6 = .ok (.getfield 7, 3) := by decide +kernel
theorem dX4_at_9 : decode cX4_at 9 = .ok (.arraylength, 1) := by decide +kernel
theorem dX4_at_10 : decode cX4_at 10 = .ok (.if_icmp .ge 12, 3) := by decide +kernel
theorem dX4_at_13 : decode cX4_at 13 = .ok (.aload_n 0, 1) := by decide +kernel
theorem dX4_at_14 : decode cX4_at 14 = .ok (.getfield 7, 3) := by decide +kernel
theorem dX4_at_17 : decode cX4_at 17 = .ok (.iload_n 1, 1) := by decide +kernel
theorem dX4_at_18 : decode cX4_at 18 = .ok (.iaload, 1) := by decide +kernel
theorem dX4_at_19 : decode cX4_at 19 = .ok (.goto 4, 3) := by decide +kernel
theorem dX4_at_22 : decode cX4_at 22 = .ok (.iconst 0, 1) := by decide +kernel
theorem dX4_at_23 : decode cX4_at 23 = .ok (.ireturn, 1) := by decide +kernel
theorem dX4_put_0 : decode cX4_put 0 = .ok (.iload_n 1, 1) := by decide +kernel
theorem dX4_put_1 : decode cX4_put 1 = .ok (.ifCond .lt 19, 3) := by decide +kernel
theorem dX4_put_4 : decode cX4_put 4 = .ok (.iload_n 1, 1) := by decide +kernel
theorem dX4_put_5 : decode cX4_put 5 = .ok (.aload_n 0, 1) := by decide +kernel
theorem dX4_put_6 : decode cX4_put 6 = .ok (.getfield 7, 3) := by decide +kernel
theorem dX4_put_9 : decode cX4_put 9 = .ok (.arraylength, 1) := by decide +kernel
theorem dX4_put_10 : decode cX4_put 10 = .ok (.if_icmp .ge 10, 3) := by decide +kernel
theorem dX4_put_13 : decode cX4_put 13 = .ok (.aload_n 0, 1) := by decide +kernel
theorem dX4_put_14 : decode cX4_put 14 = .ok (.getfield 7, 3) := by decide +kernel
theorem dX4_put_17 : decode cX4_put 17 = .ok (.iload_n 1, 1) := by decide +kernel
theorem dX4_put_18 : decode cX4_put 18 = .ok (.iload_n 2, 1) := by decide +kernel
theorem dX4_put_19 : decode cX4_put 19 = .ok (.iastore, 1) := by decide +kernel
theorem dX4_put_20 : decode cX4_put 20 = .ok (.return_, 1) := by decide +kernel
theorem dX4_add_0 : decode cX4_add 0 = .ok (.iload_n 1, 1) := by decide +kernel
theorem dX4_add_1 : decode cX4_add 1 = .ok (.ifCond .lt 22, 3) := by decide +kernel
theorem dX4_add_4 : decode cX4_add 4 = .ok (.iload_n 1, 1) := by decide +kernel
theorem dX4_add_5 : decode cX4_add 5 = .ok (.aload_n 0, 1) := by decide +kernel
theorem dX4_add_6 : decode cX4_add 6 = .ok (.getfield 7, 3) := by decide +kernel
theorem dX4_add_9 : decode cX4_add 9 = .ok (.arraylength, 1) := by decide +kernel
theorem dX4_add_10 : decode cX4_add 10 = .ok (.if_icmp .ge 13, 3) := by decide +kernel
theorem dX4_add_13 : decode cX4_add 13 = .ok (.aload_n 0, 1) := by decide +kernel
theorem dX4_add_14 : decode cX4_add 14 = .ok (.getfield 7, 3) := by decide +kernel
theorem dX4_add_17 : decode cX4_add 17 = .ok (.iload_n 1, 1) := by decide +kernel
theorem dX4_add_18 : decode cX4_add 18 = .ok (.dup2, 1) := by decide +kernel
theorem dX4_add_19 : decode cX4_add 19 = .ok (.iaload, 1) := by decide +kernel
theorem dX4_add_20 : decode cX4_add 20 = .ok (.iload_n 2, 1) := by decide +kernel
theorem dX4_add_21 : decode cX4_add 21 = .ok (.iadd, 1) := by decide +kernel
theorem dX4_add_22 : decode cX4_add 22 = .ok (.iastore, 1) := by decide +kernel
theorem dX4_add_23 : decode cX4_add 23 = .ok (.return_, 1) := by decide +kernel
theorem dX4_fill_0 : decode cX4_fill 0 = .ok (.iconst 0, 1) := by decide +kernel
theorem dX4_fill_1 : decode cX4_fill 1 = .ok (.istore_n 2, 1) := by decide +kernel
theorem dX4_fill_2 : decode cX4_fill 2 = .ok (.iload_n 2, 1) := by decide +kernel
theorem dX4_fill_3 : decode cX4_fill 3 = .ok (.aload_n 0, 1) := by decide +kernel
theorem dX4_fill_4 : decode cX4_fill 4 = .ok (.getfield 7, 3) := by decide +kernel
theorem dX4_fill_7 : decode cX4_fill 7 = .ok (.arraylength, 1) := by decide +kernel
theorem dX4_fill_8 : decode cX4_fill 8 = .ok (.if_icmp .ge 16, 3) := by decide +kernel
theorem dX4_fill_11 : decode cX4_fill 11 = .ok (.aload_n 0, 1) := by decide +kernel
theorem dX4_fill_12 : decode cX4_fill 12 = .ok (.getfield 7, 3) := by decide +kernel
theorem dX4_fill_15 : decode cX4_fill 15 = .ok (.iload_n 2, 1) := by decide +kernel
theorem dX4_fill_16 : decode cX4_fill 16 = .ok (.iload_n 1, 1) := by decide +kernel
theorem dX4_fill_17 : decode cX4_fill 17 = .ok (.iastore, 1) := by decide +kernel
theorem dX4_fill_18 : decode cX4_fill 18 = .ok (.iinc 2 1, 3) := by decide +kernel
theorem dX4_fill_21 : decode cX4_fill 21 = .ok (.goto (-19), 3) := by decide +kernel
theorem dX4_fill_24 : decode cX4_fill 24 = .ok (.return_, 1) := by decide +kernel
set_option maxRecDepth 20000 in
theorem ggX4_copyFrom_X4_at : GoodIn wsX4_copyFrom wsX4_at := goodIn_r _ [6, 1, 7] (by decide +kernel) (by decide +kernel)
set_option maxRecDepth 20000 in
theorem gX4_copyFrom_X4_at : GoodIn wsX4_copyFrom (wsV RX4 13 RX4 yX4_at wsX4_at) := goodIn_app (goodIn_of _ (by decide +kernel)) ggX4_copyFrom_X4_at
theorem dX4_copyFrom_0 : decode cX4_copyFrom 0 = .ok (.iconst 0, 1) := by decide +kernel
theorem dX4_copyFrom_1 : decode cX4_copyFrom 1 = .ok (.istore_n 2, 1) := by decide +kernel
theorem dX4_copyFrom_2 : decode cX4_copyFrom 2 = .ok (.iload_n 2, 1) := by decide +kernel
theorem dX4_copyFrom_3 : decode cX4_copyFrom 3 = .ok (.aload_n 0, 1) := by decide +kernel
theorem dX4_copyFrom_4 : decode cX4_copyFrom 4 = .ok (.getfield 7, 3) := by decide +kernel
theorem dX4_copyFrom_7 : decode cX4_copyFrom 7 = .ok (.arraylength, 1) := by decide +kernel
theorem dX4_copyFrom_8 : decode cX4_copyFrom 8 = .ok (.if_icmp .ge 20, 3) := by decide +kernel
theorem dX4_copyFrom_11 : decode cX4_copyFrom 11 = .ok (.aload_n 0, 1) := by decide +kernel
theorem dX4_copyFrom_12 : decode cX4_copyFrom 12 = .ok (.getfield 7, 3) := by decide +kernel
theorem dX4_copyFrom_15 : decode cX4_copyFrom 15 = .ok (.iload_n 2, 1) := by decide +kernel
theorem dX4_copyFrom_16 : decode cX4_copyFrom 16 = .ok (.aload_n 1, 1) := by decide +kernel
theorem dX4_copyFrom_17 : decode cX4_copyFrom 17 = .ok (.iload_n 2, 1) := by decide +kernel
theorem dX4_copyFrom_18 : decode cX4_copyFrom 18 = .ok (.invokevirtual 13, 3) := by decide +kernel
theorem dX4_copyFrom_21 : decode cX4_copyFrom 21 = .ok (.iastore, 1) := by decide +kernel
theorem dX4_copyFrom_22 : decode cX4_copyFrom 22 = .ok (.iinc 2 1, 3) := by decide +kernel
theorem dX4_copyFrom_25 : decode cX4_copyFrom 25 = .ok (.goto (-23), 3) := by decide +kernel
theorem dX4_copyFrom_28 : decode cX4_copyFrom 28 = .ok (.return_, 1) := by decide +kernel
theorem dX5_init_0 : decode cX5_init 0 = .ok (.aload_n 0, 1) := by decide +kernel
theorem dX5_init_1 : decode cX5_init 1 = .ok (.invokespecial 3, 3) := by decide +kernel
theorem dX5_init_4 : decode cX5_init 4 = .ok (.aload_n 0, 1) := by decide +kernel
theorem dX5_init_5 : decode cX5_init 5 = .ok (.aload_n 1, 1) := by decide +kernel
theorem dX5_init_6 : decode cX5_init 6 = .ok (.putfield 9, 3) := by decide +kernel
theorem dX5_init_9 : decode cX5_init 9 = .ok (.aload_n 0, 1) := by decide +kernel
theorem dX5_init_10 : decode cX5_init 10 = .ok (.aload_n 1, 1) := by decide +kernel
theorem dX5_init_11 : decode cX5_init 11 = .ok (.getfield 15, 3) := by decide +kernel
theorem dX5_init_14 : decode cX5_init 14 = .ok (.putfield 21, 3) := by decide +kernel
theorem dX5_init_17 : decode cX5_init 17 = .ok (.return_, 1) := by decide +kernel
set_option maxRecDepth 20000 in
theorem ggX5_blow_X1_cells : GoodIn wsX5_blow wsX1_cells := goodIn_r _ [6, 7, 8, 111, 112, 113, 114, 115, 116, 117, 118, 119, 120, 121, 122, 123] (by decide +kernel) (by decide +kernel)
set_option maxRecDepth 20000 in
theorem gX5_blow_X1_cells : GoodIn wsX5_blow (wsV RX5 22 RX1 yX1_cells wsX1_cells) := goodIn_app (goodIn_of _ (by decide +kernel)) ggX5_blow_X1_cells
set_option maxRecDepth 20000 in
theorem ggX5_blow_X1_draw : GoodIn wsX5_blow wsX1_draw := goodIn_r _ [12, 13, 14, 15, 16, 17, 111, 112, 113, 114, 115, 116, 117, 118, 119, 120, 121, 122, 123] (by decide +kernel) (by decide +kernel)
set_option maxRecDepth 20000 in
theorem gX5_blow_X1_draw : GoodIn wsX5_blow (wsV RX5 26 RX1 yX1_draw wsX1_draw) := goodIn_app (goodIn_of _ (by decide +kernel)) ggX5_blow_X1_draw
set_option maxRecDepth 20000 in
theorem ggX5_blow_X5_reasonToLie : GoodIn wsX5_blow wsX5_reasonToLie := goodIn_r _ [22, 23, 1, 24, 25, 26, 27, 28, 29, 30, 31, 32, 5, 33, 34, 35, 36, 37, 38, 39, 7, 8, 40, 41, 42, 43, 44, 45, 46, 47, 48, 49, 9, 10, 11, 12, 13, 14, 15, 16, 17, 109, 110, 111, 112, 113, 114, 115, 116, 117, 118, 119, 120, 121, 122, 123, 124] (by decide +kernel) (by decide +kernel)
set_option maxRecDepth 20000 in
theorem gX5_blow_X5_reasonToLie : GoodIn wsX5_blow (wsV RX5 30 RX5 yX5_reasonToLie wsX5_reasonToLie) := goodIn_app (goodIn_of _ (by decide +kernel)) ggX5_blow_X5_reasonToLie
set_option maxRecDepth 20000 in
theorem ggX5_blow_X5_carryFrom : GoodIn wsX5_blow wsX5_carryFrom := goodIn_r _ [53, 23, 1, 54, 55, 56, 27, 57, 29, 58, 59, 60, 21, 61, 62, 63, 64, 65, 66, 67, 47, 48, 5, 49, 8, 7, 24, 25, 26, 28, 68, 69, 70, 71, 72, 73, 74, 75, 76, 77, 78, 79, 80, 81, 82, 83, 45, 84, 85, 86, 87, 34, 88, 35, 89, 90, 91, 92, 36, 37, 38, 39, 40, 41, 42, 43, 44, 46, 9, 10, 11, 12, 13, 14, 15, 16, 17, 93, 94, 95, 96, 97, 98, 99, 100, 101, 102, 103, 104, 105, 106, 107, 108, 109, 110, 111, 112, 113, 114, 115, 116, 117, 118, 119, 120, 121, 122, 123, 124] (by decide +kernel) (by decide +kernel)
set_option maxRecDepth 20000 in
theorem gX5_blow_X5_carryFrom : GoodIn wsX5_blow (wsV RX5 33 RX5 yX5_carryFrom wsX5_carryFrom) := goodIn_app (goodIn_of _ (by decide +kernel)) ggX5_blow_X5_carryFrom
set_option maxRecDepth 20000 in
theorem ggX5_blow_X5_noteStep : GoodIn wsX5_blow wsX5_noteStep := goodIn_r _ [104, 1, 54, 55, 56, 27, 57, 29, 105, 106, 107, 108, 109, 110, 111, 112, 113, 114, 115, 116, 117, 118, 119, 120, 121, 122, 123, 124] (by decide +kernel) (by decide +kernel)
set_option maxRecDepth 20000 in
theorem gX5_blow_X5_noteStep : GoodIn wsX5_blow (wsV RX5 37 RX5 yX5_noteStep wsX5_noteStep) := goodIn_app (goodIn_of _ (by decide +kernel)) ggX5_blow_X5_noteStep
theorem dX5_blow_0 : decode cX5_blow 0 = .ok (.iconst 0, 1) := by decide +kernel
theorem dX5_blow_1 : decode cX5_blow 1 = .ok (.istore_n 2, 1) := by decide +kernel
theorem dX5_blow_2 : decode cX5_blow 2 = .ok (.iconst 0, 1) := by decide +kernel
theorem dX5_blow_3 : decode cX5_blow 3 = .ok (.istore_n 3, 1) := by decide +kernel
theorem dX5_blow_4 : decode cX5_blow 4 = .ok (.iload_n 3, 1) := by decide +kernel
theorem dX5_blow_5 : decode cX5_blow 5 = .ok (.iload_n 1, 1) := by decide +kernel
theorem dX5_blow_6 : decode cX5_blow 6 = .ok (.if_icmp .ge 60, 3) := by decide +kernel
theorem dX5_blow_9 : decode cX5_blow 9 = .ok (.aload_n 0, 1) := by decide +kernel
theorem dX5_blow_10 : decode cX5_blow 10 = .ok (.getfield 9, 3) := by decide +kernel
theorem dX5_blow_13 : decode cX5_blow 13 = .ok (.aload_n 0, 1) := by decide +kernel
theorem dX5_blow_14 : decode cX5_blow 14 = .ok (.getfield 9, 3) := by decide +kernel
theorem dX5_blow_17 : decode cX5_blow 17 = .ok (.invokevirtual 22, 3) := by decide +kernel
theorem dX5_blow_20 : decode cX5_blow 20 = .ok (.invokevirtual 26, 3) := by decide +kernel
theorem dX5_blow_23 : decode cX5_blow 23 = .ok (.istore 4, 2) := by decide +kernel
theorem dX5_blow_25 : decode cX5_blow 25 = .ok (.aload_n 0, 1) := by decide +kernel
theorem dX5_blow_26 : decode cX5_blow 26 = .ok (.iload 4, 2) := by decide +kernel
theorem dX5_blow_28 : decode cX5_blow 28 = .ok (.invokevirtual 30, 3) := by decide +kernel
theorem dX5_blow_31 : decode cX5_blow 31 = .ok (.istore 5, 2) := by decide +kernel
theorem dX5_blow_33 : decode cX5_blow 33 = .ok (.iload 5, 2) := by decide +kernel
theorem dX5_blow_35 : decode cX5_blow 35 = .ok (.ifCond .ne 15, 3) := by decide +kernel
theorem dX5_blow_38 : decode cX5_blow 38 = .ok (.aload_n 0, 1) := by decide +kernel
theorem dX5_blow_39 : decode cX5_blow 39 = .ok (.iload 4, 2) := by decide +kernel
theorem dX5_blow_41 : decode cX5_blow 41 = .ok (.invokevirtual 33, 3) := by decide +kernel
theorem dX5_blow_44 : decode cX5_blow 44 = .ok (.iinc 2 1, 3) := by decide +kernel
theorem dX5_blow_47 : decode cX5_blow 47 = .ok (.goto 13, 3) := by decide +kernel
theorem dX5_blow_50 : decode cX5_blow 50 = .ok (.aload_n 0, 1) := by decide +kernel
theorem dX5_blow_51 : decode cX5_blow 51 = .ok (.iload 5, 2) := by decide +kernel
theorem dX5_blow_53 : decode cX5_blow 53 = .ok (.iload 4, 2) := by decide +kernel
theorem dX5_blow_55 : decode cX5_blow 55 = .ok (.iconst (-1), 1) := by decide +kernel
theorem dX5_blow_56 : decode cX5_blow 56 = .ok (.iconst 0, 1) := by decide +kernel
theorem dX5_blow_57 : decode cX5_blow 57 = .ok (.invokevirtual 37, 3) := by decide +kernel
theorem dX5_blow_60 : decode cX5_blow 60 = .ok (.iinc 3 1, 3) := by decide +kernel
theorem dX5_blow_63 : decode cX5_blow 63 = .ok (.goto (-59), 3) := by decide +kernel
theorem dX5_blow_66 : decode cX5_blow 66 = .ok (.iload_n 2, 1) := by decide +kernel
theorem dX5_blow_67 : decode cX5_blow 67 = .ok (.ireturn, 1) := by decide +kernel
set_option maxRecDepth 20000 in
theorem ggX5_reasonToLie_X4_at : GoodIn wsX5_reasonToLie wsX4_at := goodIn_r _ [7, 8, 56] (by decide +kernel) (by decide +kernel)
set_option maxRecDepth 20000 in
theorem gX5_reasonToLie_X4_at : GoodIn wsX5_reasonToLie (wsV RX5 41 RX4 yX4_at wsX4_at) := goodIn_app (goodIn_of _ (by decide +kernel)) ggX5_reasonToLie_X4_at
set_option maxRecDepth 20000 in
theorem ggX5_reasonToLie_X1_hasFence : GoodIn wsX5_reasonToLie wsX1_hasFence := goodIn_r _ [13, 14, 15, 4, 5, 6, 7, 8, 43, 44, 45, 46, 47, 48, 49, 50, 51, 52, 53, 54, 55, 56] (by decide +kernel) (by decide +kernel)
set_option maxRecDepth 20000 in
theorem gX5_reasonToLie_X1_hasFence : GoodIn wsX5_reasonToLie (wsV RX5 46 RX1 yX1_hasFence wsX1_hasFence) := goodIn_app (goodIn_of _ (by decide +kernel)) ggX5_reasonToLie_X1_hasFence
set_option maxRecDepth 20000 in
theorem ggX5_reasonToLie_X1_inShadow : GoodIn wsX5_reasonToLie wsX1_inShadow := goodIn_r _ [19, 20, 21, 22, 23, 24, 25, 12, 26, 27, 15, 4, 5, 6, 7, 8, 28, 29, 30, 31, 43, 44, 45, 46, 47, 48, 49, 50, 51, 52, 53, 54, 55, 56] (by decide +kernel) (by decide +kernel)
set_option maxRecDepth 20000 in
theorem gX5_reasonToLie_X1_inShadow : GoodIn wsX5_reasonToLie (wsV RX5 50 RX1 yX1_inShadow wsX1_inShadow) := goodIn_app (goodIn_of _ (by decide +kernel)) ggX5_reasonToLie_X1_inShadow
set_option maxRecDepth 20000 in
theorem ggX5_reasonToLie_X1_draw : GoodIn wsX5_reasonToLie wsX1_draw := goodIn_r _ [35, 36, 37, 38, 39, 40, 43, 44, 45, 46, 47, 48, 49, 50, 51, 52, 53, 54, 55] (by decide +kernel) (by decide +kernel)
set_option maxRecDepth 20000 in
theorem gX5_reasonToLie_X1_draw : GoodIn wsX5_reasonToLie (wsV RX5 26 RX1 yX1_draw wsX1_draw) := goodIn_app (goodIn_of _ (by decide +kernel)) ggX5_reasonToLie_X1_draw
theorem dX5_reasonToLie_0 : decode cX5_reasonToLie 0 = .ok (.aload_n 0, 1) := by decide +kernel
theorem dX5_reasonToLie_1 : decode cX5_reasonToLie 1 = .ok (.getfield 21, 3) := by decide +kernel
theorem dX5_reasonToLie_4 : decode cX5_reasonToLie 4 = .ok (.iload_n 1, 1) := by decide +kernel
theorem dX5_reasonToLie_5 : decode cX5_reasonToLie 5 = .ok (.invokevirtual 41, 3) := by decide +kernel
theorem dX5_reasonToLie_8 : decode cX5_reasonToLie 8 = .ok (.ifCond .ne 5, 3) := by decide +kernel
theorem dX5_reasonToLie_11 : decode cX5_reasonToLie 11 = .ok (.iconst 1, 1) := by decide +kernel
theorem dX5_reasonToLie_12 : decode cX5_reasonToLie 12 = .ok (.ireturn, 1) := by decide +kernel
theorem dX5_reasonToLie_13 : decode cX5_reasonToLie 13 = .ok (.aload_n 0, 1) := by decide +kernel
theorem dX5_reasonToLie_14 : decode cX5_reasonToLie 14 = .ok (.getfield 9, 3) := by decide +kernel
theorem dX5_reasonToLie_17 : decode cX5_reasonToLie 17 = .ok (.iload_n 1, 1) := by decide +kernel
theorem dX5_reasonToLie_18 : decode cX5_reasonToLie 18 = .ok (.invokevirtual 46, 3) := by decide +kernel
theorem dX5_reasonToLie_21 : decode cX5_reasonToLie 21 = .ok (.ifCond .eq 5, 3) := by decide +kernel
theorem dX5_reasonToLie_24 : decode cX5_reasonToLie 24 = .ok (.iconst 2, 1) := by decide +kernel
theorem dX5_reasonToLie_25 : decode cX5_reasonToLie 25 = .ok (.ireturn, 1) := by decide +kernel
theorem dX5_reasonToLie_26 : decode cX5_reasonToLie 26 = .ok (.aload_n 0, 1) := by decide +kernel
theorem dX5_reasonToLie_27 : decode cX5_reasonToLie 27 = .ok (.getfield 9, 3) := by decide +kernel
theorem dX5_reasonToLie_30 : decode cX5_reasonToLie 30 = .ok (.iload_n 1, 1) := by decide +kernel
theorem dX5_reasonToLie_31 : decode cX5_reasonToLie 31 = .ok (.invokevirtual 50, 3) := by decide +kernel
theorem dX5_reasonToLie_34 : decode cX5_reasonToLie 34 = .ok (.ifCond .eq 5, 3) := by decide +kernel
theorem dX5_reasonToLie_37 : decode cX5_reasonToLie 37 = .ok (.iconst 3, 1) := by decide +kernel
theorem dX5_reasonToLie_38 : decode cX5_reasonToLie 38 = .ok (.ireturn, 1) := by decide +kernel
theorem dX5_reasonToLie_39 : decode cX5_reasonToLie 39 = .ok (.aload_n 0, 1) := by decide +kernel
theorem dX5_reasonToLie_40 : decode cX5_reasonToLie 40 = .ok (.getfield 9, 3) := by decide +kernel
theorem dX5_reasonToLie_43 : decode cX5_reasonToLie 43 = .ok (.bipush 100, 2) := by decide +kernel
theorem dX5_reasonToLie_45 : decode cX5_reasonToLie 45 = .ok (.invokevirtual 26, 3) := by decide +kernel
theorem dX5_reasonToLie_48 : decode cX5_reasonToLie 48 = .ok (.aload_n 0, 1) := by decide +kernel
theorem dX5_reasonToLie_49 : decode cX5_reasonToLie 49 = .ok (.getfield 9, 3) := by decide +kernel
theorem dX5_reasonToLie_52 : decode cX5_reasonToLie 52 = .ok (.getfield 53, 3) := by decide +kernel
theorem dX5_reasonToLie_55 : decode cX5_reasonToLie 55 = .ok (.iload_n 1, 1) := by decide +kernel
theorem dX5_reasonToLie_56 : decode cX5_reasonToLie 56 = .ok (.invokevirtual 41, 3) := by decide +kernel
theorem dX5_reasonToLie_59 : decode cX5_reasonToLie 59 = .ok (.if_icmp .ge 7, 3) := by decide +kernel
theorem dX5_reasonToLie_62 : decode cX5_reasonToLie 62 = .ok (.iconst 4, 1) := by decide +kernel
theorem dX5_reasonToLie_63 : decode cX5_reasonToLie 63 = .ok (.goto 4, 3) := by decide +kernel
theorem dX5_reasonToLie_66 : decode cX5_reasonToLie 66 = .ok (.iconst 0, 1) := by decide +kernel
theorem dX5_reasonToLie_67 : decode cX5_reasonToLie 67 = .ok (.ireturn, 1) := by decide +kernel
set_option maxRecDepth 20000 in
theorem ggX5_carryFrom_X4_add : GoodIn wsX5_carryFrom wsX4_add := goodIn_r _ [7, 8, 108] (by decide +kernel) (by decide +kernel)
set_option maxRecDepth 20000 in
theorem gX5_carryFrom_X4_add : GoodIn wsX5_carryFrom (wsV RX5 56 RX4 yX4_add wsX4_add) := goodIn_app (goodIn_of _ (by decide +kernel)) ggX5_carryFrom_X4_add
set_option maxRecDepth 20000 in
theorem ggX5_carryFrom_X5_slideInto : GoodIn wsX5_carryFrom wsX5_slideInto := goodIn_r _ [13, 14, 1, 2, 15, 16, 17, 12, 18, 19, 20, 21, 22, 23, 24, 25, 26, 27, 28, 6, 29, 8, 30, 31, 32, 33, 3, 4, 5, 7, 93, 94, 95, 96, 97, 98, 99, 100, 101, 102, 103, 104, 105, 106, 107, 108] (by decide +kernel) (by decide +kernel)
set_option maxRecDepth 20000 in
theorem gX5_carryFrom_X5_slideInto : GoodIn wsX5_carryFrom (wsV RX5 60 RX5 yX5_slideInto wsX5_slideInto) := goodIn_app (goodIn_of _ (by decide +kernel)) ggX5_carryFrom_X5_slideInto
set_option maxRecDepth 20000 in
theorem ggX5_carryFrom_X5_hopFrom : GoodIn wsX5_carryFrom wsX5_hopFrom := goodIn_r _ [37, 2, 26, 27, 28, 6, 29, 8, 38, 39, 40, 12, 41, 42, 43, 44, 22, 45, 46, 19, 20, 21, 23, 24, 25, 3, 4, 5, 7, 47, 48, 49, 50, 51, 52, 53, 93, 94, 95, 96, 97, 98, 99, 100, 101, 102, 103, 104, 105, 106, 107, 108] (by decide +kernel) (by decide +kernel)
set_option maxRecDepth 20000 in
theorem gX5_carryFrom_X5_hopFrom : GoodIn wsX5_carryFrom (wsV RX5 63 RX5 yX5_hopFrom wsX5_hopFrom) := goodIn_app (goodIn_of _ (by decide +kernel)) ggX5_carryFrom_X5_hopFrom
set_option maxRecDepth 20000 in
theorem ggX5_carryFrom_X5_reasonToStay : GoodIn wsX5_carryFrom wsX5_reasonToStay := goodIn_r _ [57, 2, 1, 47, 48, 49, 22, 50, 51, 52, 53, 27, 28, 6, 29, 8, 58, 59, 60, 61, 25, 24, 62, 63, 64, 65, 66, 46, 67, 20, 21, 23, 26, 68, 69, 70, 71, 72, 73, 74, 75, 76, 93, 94, 95, 96, 97, 98, 99, 100, 101, 102, 103, 104, 105, 106, 107, 108] (by decide +kernel) (by decide +kernel)
set_option maxRecDepth 20000 in
theorem gX5_carryFrom_X5_reasonToStay : GoodIn wsX5_carryFrom (wsV RX5 66 RX5 yX5_reasonToStay wsX5_reasonToStay) := goodIn_app (goodIn_of _ (by decide +kernel)) ggX5_carryFrom_X5_reasonToStay
set_option maxRecDepth 20000 in
theorem ggX5_carryFrom_X5_slideFrom : GoodIn wsX5_carryFrom wsX5_slideFrom := goodIn_r _ [80, 14, 1, 2, 81, 82, 83, 12, 84, 19, 20, 21, 22, 23, 24, 25, 26, 27, 28, 6, 29, 8, 30, 31, 32, 33, 3, 4, 5, 7, 93, 94, 95, 96, 97, 98, 99, 100, 101, 102, 103, 104, 105, 106, 107, 108] (by decide +kernel) (by decide +kernel)
set_option maxRecDepth 20000 in
theorem gX5_carryFrom_X5_slideFrom : GoodIn wsX5_carryFrom (wsV RX5 73 RX5 yX5_slideFrom wsX5_slideFrom) := goodIn_app (goodIn_of _ (by decide +kernel)) ggX5_carryFrom_X5_slideFrom
set_option maxRecDepth 20000 in
theorem ggX5_carryFrom_X5_noteStep : GoodIn wsX5_carryFrom wsX5_noteStep := goodIn_r _ [88, 2, 3, 4, 5, 6, 7, 8, 89, 90, 91, 92, 93, 94, 95, 96, 97, 98, 99, 100, 101, 102, 103, 104, 105, 106, 107, 108] (by decide +kernel) (by decide +kernel)
set_option maxRecDepth 20000 in
theorem gX5_carryFrom_X5_noteStep : GoodIn wsX5_carryFrom (wsV RX5 37 RX5 yX5_noteStep wsX5_noteStep) := goodIn_app (goodIn_of _ (by decide +kernel)) ggX5_carryFrom_X5_noteStep
theorem dX5_carryFrom_0 : decode cX5_carryFrom 0 = .ok (.aload_n 0, 1) := by decide +kernel
theorem dX5_carryFrom_1 : decode cX5_carryFrom 1 = .ok (.getfield 21, 3) := by decide +kernel
theorem dX5_carryFrom_4 : decode cX5_carryFrom 4 = .ok (.iload_n 1, 1) := by decide +kernel
theorem dX5_carryFrom_5 : decode cX5_carryFrom 5 = .ok (.iconst (-1), 1) := by decide +kernel
theorem dX5_carryFrom_6 : decode cX5_carryFrom 6 = .ok (.invokevirtual 56, 3) := by decide +kernel
theorem dX5_carryFrom_9 : decode cX5_carryFrom 9 = .ok (.aload_n 0, 1) := by decide +kernel
theorem dX5_carryFrom_10 : decode cX5_carryFrom 10 = .ok (.iload_n 1, 1) := by decide +kernel
theorem dX5_carryFrom_11 : decode cX5_carryFrom 11 = .ok (.invokevirtual 60, 3) := by decide +kernel
theorem dX5_carryFrom_14 : decode cX5_carryFrom 14 = .ok (.iload_n 1, 1) := by decide +kernel
theorem dX5_carryFrom_15 : decode cX5_carryFrom 15 = .ok (.istore_n 2, 1) := by decide +kernel
theorem dX5_carryFrom_16 : decode cX5_carryFrom 16 = .ok (.iconst 0, 1) := by decide +kernel
theorem dX5_carryFrom_17 : decode cX5_carryFrom 17 = .ok (.istore_n 3, 1) := by decide +kernel
theorem dX5_carryFrom_18 : decode cX5_carryFrom 18 = .ok (.iconst 0, 1) := by decide +kernel
theorem dX5_carryFrom_19 : decode cX5_carryFrom 19 = .ok (.istore 4, 2) := by decide +kernel
theorem dX5_carryFrom_21 : decode cX5_carryFrom 21 = .ok (.iload 4, 2) := by decide +kernel
theorem dX5_carryFrom_23 : decode cX5_carryFrom 23 = .ok (.ifCond .ne 29, 3) := by decide +kernel
theorem dX5_carryFrom_26 : decode cX5_carryFrom 26 = .ok (.iload_n 3, 1) := by decide +kernel
theorem dX5_carryFrom_27 : decode cX5_carryFrom 27 = .ok (.bipush 12, 2) := by decide +kernel
theorem dX5_carryFrom_29 : decode cX5_carryFrom 29 = .ok (.if_icmp .ge 23, 3) := by decide +kernel
theorem dX5_carryFrom_32 : decode cX5_carryFrom 32 = .ok (.iinc 3 1, 3) := by decide +kernel
theorem dX5_carryFrom_35 : decode cX5_carryFrom 35 = .ok (.aload_n 0, 1) := by decide +kernel
theorem dX5_carryFrom_36 : decode cX5_carryFrom 36 = .ok (.iload_n 2, 1) := by decide +kernel
theorem dX5_carryFrom_37 : decode cX5_carryFrom 37 = .ok (.invokevirtual 63, 3) := by decide +kernel
theorem dX5_carryFrom_40 : decode cX5_carryFrom 40 = .ok (.istore_n 2, 1) := by decide +kernel
theorem dX5_carryFrom_41 : decode cX5_carryFrom 41 = .ok (.aload_n 0, 1) := by decide +kernel
theorem dX5_carryFrom_42 : decode cX5_carryFrom 42 = .ok (.iload_n 2, 1) := by decide +kernel
theorem dX5_carryFrom_43 : decode cX5_carryFrom 43 = .ok (.iload_n 3, 1) := by decide +kernel
theorem dX5_carryFrom_44 : decode cX5_carryFrom 44 = .ok (.invokevirtual 66, 3) := by decide +kernel
theorem dX5_carryFrom_47 : decode cX5_carryFrom 47 = .ok (.istore 4, 2) := by decide +kernel
theorem dX5_carryFrom_49 : decode cX5_carryFrom 49 = .ok (.goto (-28), 3) := by decide +kernel
theorem dX5_carryFrom_52 : decode cX5_carryFrom 52 = .ok (.iload 4, 2) := by decide +kernel
theorem dX5_carryFrom_54 : decode cX5_carryFrom 54 = .ok (.iconst 5, 1) := by decide +kernel
theorem dX5_carryFrom_55 : decode cX5_carryFrom 55 = .ok (.if_icmp .ne 15, 3) := by decide +kernel
theorem dX5_carryFrom_58 : decode cX5_carryFrom 58 = .ok (.aload_n 0, 1) := by decide +kernel
theorem dX5_carryFrom_59 : decode cX5_carryFrom 59 = .ok (.getfield 9, 3) := by decide +kernel
theorem dX5_carryFrom_62 : decode cX5_carryFrom 62 = .ok (.getfield 70, 3) := by decide +kernel
theorem dX5_carryFrom_65 : decode cX5_carryFrom 65 = .ok (.iload_n 2, 1) := by decide +kernel
theorem dX5_carryFrom_66 : decode cX5_carryFrom 66 = .ok (.iconst 1, 1) := by decide +kernel
theorem dX5_carryFrom_67 : decode cX5_carryFrom 67 = .ok (.invokevirtual 56, 3) := by decide +kernel
theorem dX5_carryFrom_70 : decode cX5_carryFrom 70 = .ok (.aload_n 0, 1) := by decide +kernel
theorem dX5_carryFrom_71 : decode cX5_carryFrom 71 = .ok (.getfield 21, 3) := by decide +kernel
theorem dX5_carryFrom_74 : decode cX5_carryFrom 74 = .ok (.iload_n 2, 1) := by decide +kernel
theorem dX5_carryFrom_75 : decode cX5_carryFrom 75 = .ok (.iconst 1, 1) := by decide +kernel
theorem dX5_carryFrom_76 : decode cX5_carryFrom 76 = .ok (.invokevirtual 56, 3) := by decide +kernel
theorem dX5_carryFrom_79 : decode cX5_carryFrom 79 = .ok (.aload_n 0, 1) := by decide +kernel
theorem dX5_carryFrom_80 : decode cX5_carryFrom 80 = .ok (.iload_n 2, 1) := by decide +kernel
theorem dX5_carryFrom_81 : decode cX5_carryFrom 81 = .ok (.invokevirtual 73, 3) := by decide +kernel
theorem dX5_carryFrom_84 : decode cX5_carryFrom 84 = .ok (.aload_n 0, 1) := by decide +kernel
theorem dX5_carryFrom_85 : decode cX5_carryFrom 85 = .ok (.iload 4, 2) := by decide +kernel
theorem dX5_carryFrom_87 : decode cX5_carryFrom 87 = .ok (.iload_n 1, 1) := by decide +kernel
theorem dX5_carryFrom_88 : decode cX5_carryFrom 88 = .ok (.iload_n 2, 1) := by decide +kernel
theorem dX5_carryFrom_89 : decode cX5_carryFrom 89 = .ok (.iload_n 3, 1) := by decide +kernel
theorem dX5_carryFrom_90 : decode cX5_carryFrom 90 = .ok (.invokevirtual 37, 3) := by decide +kernel
theorem dX5_carryFrom_93 : decode cX5_carryFrom 93 = .ok (.return_, 1) := by decide +kernel
set_option maxRecDepth 20000 in
theorem ggX5_hopFrom_X4_at : GoodIn wsX5_hopFrom wsX4_at := goodIn_r _ [6, 7, 51] (by decide +kernel) (by decide +kernel)
set_option maxRecDepth 20000 in
theorem gX5_hopFrom_X4_at : GoodIn wsX5_hopFrom (wsV RX5 41 RX4 yX4_at wsX4_at) := goodIn_app (goodIn_of _ (by decide +kernel)) ggX5_hopFrom_X4_at
set_option maxRecDepth 20000 in
theorem ggX5_hopFrom_X5_moveDownwind : GoodIn wsX5_hopFrom wsX5_moveDownwind := goodIn_r _ [12, 1, 13, 14, 15, 16, 17, 18, 19, 20, 21, 22, 23, 24, 25, 26, 27, 5, 28, 7, 36, 37, 38, 39, 40, 41, 42, 43, 44, 45, 46, 47, 48, 49, 50, 51] (by decide +kernel) (by decide +kernel)
set_option maxRecDepth 20000 in
theorem gX5_hopFrom_X5_moveDownwind : GoodIn wsX5_hopFrom (wsV RX5 79 RX5 yX5_moveDownwind wsX5_moveDownwind) := goodIn_app (goodIn_of _ (by decide +kernel)) ggX5_hopFrom_X5_moveDownwind
set_option maxRecDepth 20000 in
theorem ggX5_hopFrom_X1_hasOpenFence : GoodIn wsX5_hopFrom wsX1_hasOpenFence := goodIn_r _ [32, 33, 34, 35, 3, 4, 5, 6, 7, 38, 39, 40, 41, 42, 43, 44, 45, 46, 47, 48, 49, 50, 51] (by decide +kernel) (by decide +kernel)
set_option maxRecDepth 20000 in
theorem gX5_hopFrom_X1_hasOpenFence : GoodIn wsX5_hopFrom (wsV RX5 82 RX1 yX1_hasOpenFence wsX1_hasOpenFence) := goodIn_app (goodIn_of _ (by decide +kernel)) ggX5_hopFrom_X1_hasOpenFence
theorem dX5_hopFrom_0 : decode cX5_hopFrom 0 = .ok (.iload_n 1, 1) := by decide +kernel
theorem dX5_hopFrom_1 : decode cX5_hopFrom 1 = .ok (.istore_n 2, 1) := by decide +kernel
theorem dX5_hopFrom_2 : decode cX5_hopFrom 2 = .ok (.aload_n 0, 1) := by decide +kernel
theorem dX5_hopFrom_3 : decode cX5_hopFrom 3 = .ok (.getfield 9, 3) := by decide +kernel
theorem dX5_hopFrom_6 : decode cX5_hopFrom 6 = .ok (.getfield 76, 3) := by decide +kernel
theorem dX5_hopFrom_9 : decode cX5_hopFrom 9 = .ok (.iconst 0, 1) := by decide +kernel
theorem dX5_hopFrom_10 : decode cX5_hopFrom 10 = .ok (.invokevirtual 41, 3) := by decide +kernel
theorem dX5_hopFrom_13 : decode cX5_hopFrom 13 = .ok (.istore_n 3, 1) := by decide +kernel
theorem dX5_hopFrom_14 : decode cX5_hopFrom 14 = .ok (.iconst 0, 1) := by decide +kernel
theorem dX5_hopFrom_15 : decode cX5_hopFrom 15 = .ok (.istore 4, 2) := by decide +kernel
theorem dX5_hopFrom_17 : decode cX5_hopFrom 17 = .ok (.iload 4, 2) := by decide +kernel
theorem dX5_hopFrom_19 : decode cX5_hopFrom 19 = .ok (.iload_n 3, 1) := by decide +kernel
theorem dX5_hopFrom_20 : decode cX5_hopFrom 20 = .ok (.if_icmp .ge 28, 3) := by decide +kernel
theorem dX5_hopFrom_23 : decode cX5_hopFrom 23 = .ok (.aload_n 0, 1) := by decide +kernel
theorem dX5_hopFrom_24 : decode cX5_hopFrom 24 = .ok (.iload_n 2, 1) := by decide +kernel
theorem dX5_hopFrom_25 : decode cX5_hopFrom 25 = .ok (.invokevirtual 79, 3) := by decide +kernel
theorem dX5_hopFrom_28 : decode cX5_hopFrom 28 = .ok (.istore_n 2, 1) := by decide +kernel
theorem dX5_hopFrom_29 : decode cX5_hopFrom 29 = .ok (.aload_n 0, 1) := by decide +kernel
theorem dX5_hopFrom_30 : decode cX5_hopFrom 30 = .ok (.getfield 9, 3) := by decide +kernel
theorem dX5_hopFrom_33 : decode cX5_hopFrom 33 = .ok (.iload_n 2, 1) := by decide +kernel
theorem dX5_hopFrom_34 : decode cX5_hopFrom 34 = .ok (.invokevirtual 82, 3) := by decide +kernel
theorem dX5_hopFrom_37 : decode cX5_hopFrom 37 = .ok (.ifCond .eq 5, 3) := by decide +kernel
theorem dX5_hopFrom_40 : decode cX5_hopFrom 40 = .ok (.iload_n 2, 1) := by decide +kernel
theorem dX5_hopFrom_41 : decode cX5_hopFrom 41 = .ok (.ireturn, 1) := by decide +kernel
theorem dX5_hopFrom_42 : decode cX5_hopFrom 42 = .ok (.iinc 4 1, 3) := by decide +kernel
theorem dX5_hopFrom_45 : decode cX5_hopFrom 45 = .ok (.goto (-28), 3) := by decide +kernel
theorem dX5_hopFrom_48 : decode cX5_hopFrom 48 = .ok (.iload_n 2, 1) := by decide +kernel
theorem dX5_hopFrom_49 : decode cX5_hopFrom 49 = .ok (.ireturn, 1) := by decide +kernel
set_option maxRecDepth 20000 in
theorem ggX5_moveDownwind_X1_downwindSide : GoodIn wsX5_moveDownwind wsX1_downwindSide := goodIn_r _ [6, 7, 22, 23, 24, 25, 26, 27, 28, 29, 30, 31, 32, 33, 34] (by decide +kernel) (by decide +kernel)
set_option maxRecDepth 20000 in
theorem gX5_moveDownwind_X1_downwindSide : GoodIn wsX5_moveDownwind (wsV RX5 85 RX1 yX1_downwindSide wsX1_downwindSide) := goodIn_app (goodIn_of _ (by decide +kernel)) ggX5_moveDownwind_X1_downwindSide
set_option maxRecDepth 20000 in
theorem ggX5_moveDownwind_X1_neighbor : GoodIn wsX5_moveDownwind wsX1_neighbor := goodIn_r _ [11, 12, 13, 22, 23, 24, 25, 26, 27, 28, 29, 30, 31, 32, 33, 34] (by decide +kernel) (by decide +kernel)
set_option maxRecDepth 20000 in
theorem gX5_moveDownwind_X1_neighbor : GoodIn wsX5_moveDownwind (wsV RX5 88 RX1 yX1_neighbor wsX1_neighbor) := goodIn_app (goodIn_of _ (by decide +kernel)) ggX5_moveDownwind_X1_neighbor
set_option maxRecDepth 20000 in
theorem ggX5_moveDownwind_X4_add : GoodIn wsX5_moveDownwind wsX4_add := goodIn_r _ [18, 19, 35] (by decide +kernel) (by decide +kernel)
set_option maxRecDepth 20000 in
theorem gX5_moveDownwind_X4_add : GoodIn wsX5_moveDownwind (wsV RX5 56 RX4 yX4_add wsX4_add) := goodIn_app (goodIn_of _ (by decide +kernel)) ggX5_moveDownwind_X4_add
theorem dX5_moveDownwind_0 : decode cX5_moveDownwind 0 = .ok (.aload_n 0, 1) := by decide +kernel
theorem dX5_moveDownwind_1 : decode cX5_moveDownwind 1 = .ok (.getfield 9, 3) := by decide +kernel
theorem dX5_moveDownwind_4 : decode cX5_moveDownwind 4 = .ok (.iload_n 1, 1) := by decide +kernel
theorem dX5_moveDownwind_5 : decode cX5_moveDownwind 5 = .ok (.aload_n 0, 1) := by decide +kernel
theorem dX5_moveDownwind_6 : decode cX5_moveDownwind 6 = .ok (.getfield 9, 3) := by decide +kernel
theorem dX5_moveDownwind_9 : decode cX5_moveDownwind 9 = .ok (.invokevirtual 85, 3) := by decide +kernel
theorem dX5_moveDownwind_12 : decode cX5_moveDownwind 12 = .ok (.invokevirtual 88, 3) := by decide +kernel
theorem dX5_moveDownwind_15 : decode cX5_moveDownwind 15 = .ok (.istore_n 2, 1) := by decide +kernel
theorem dX5_moveDownwind_16 : decode cX5_moveDownwind 16 = .ok (.aload_n 0, 1) := by decide +kernel
theorem dX5_moveDownwind_17 : decode cX5_moveDownwind 17 = .ok (.getfield 9, 3) := by decide +kernel
theorem dX5_moveDownwind_20 : decode cX5_moveDownwind 20 = .ok (.getfield 91, 3) := by decide +kernel
theorem dX5_moveDownwind_23 : decode cX5_moveDownwind 23 = .ok (.ifCond .ne 21, 3) := by decide +kernel
theorem dX5_moveDownwind_26 : decode cX5_moveDownwind 26 = .ok (.iload_n 2, 1) := by decide +kernel
theorem dX5_moveDownwind_27 : decode cX5_moveDownwind 27 = .ok (.iload_n 1, 1) := by decide +kernel
theorem dX5_moveDownwind_28 : decode cX5_moveDownwind 28 = .ok (.if_icmp .ge 16, 3) := by decide +kernel
theorem dX5_moveDownwind_31 : decode cX5_moveDownwind 31 = .ok (.aload_n 0, 1) := by decide +kernel
theorem dX5_moveDownwind_32 : decode cX5_moveDownwind 32 = .ok (.getfield 9, 3) := by decide +kernel
theorem dX5_moveDownwind_35 : decode cX5_moveDownwind 35 = .ok (.getfield 95, 3) := by decide +kernel
theorem dX5_moveDownwind_38 : decode cX5_moveDownwind 38 = .ok (.bipush 10, 2) := by decide +kernel
theorem dX5_moveDownwind_40 : decode cX5_moveDownwind 40 = .ok (.iconst 1, 1) := by decide +kernel
theorem dX5_moveDownwind_41 : decode cX5_moveDownwind 41 = .ok (.invokevirtual 56, 3) := by decide +kernel
theorem dX5_moveDownwind_44 : decode cX5_moveDownwind 44 = .ok (.aload_n 0, 1) := by decide +kernel
theorem dX5_moveDownwind_45 : decode cX5_moveDownwind 45 = .ok (.getfield 9, 3) := by decide +kernel
theorem dX5_moveDownwind_48 : decode cX5_moveDownwind 48 = .ok (.getfield 91, 3) := by decide +kernel
theorem dX5_moveDownwind_51 : decode cX5_moveDownwind 51 = .ok (.iconst 2, 1) := by decide +kernel
theorem dX5_moveDownwind_52 : decode cX5_moveDownwind 52 = .ok (.if_icmp .ne 21, 3) := by decide +kernel
theorem dX5_moveDownwind_55 : decode cX5_moveDownwind 55 = .ok (.iload_n 2, 1) := by decide +kernel
theorem dX5_moveDownwind_56 : decode cX5_moveDownwind 56 = .ok (.iload_n 1, 1) := by decide +kernel
theorem dX5_moveDownwind_57 : decode cX5_moveDownwind 57 = .ok (.if_icmp .le 16, 3) := by decide +kernel
theorem dX5_moveDownwind_60 : decode cX5_moveDownwind 60 = .ok (.aload_n 0, 1) := by decide +kernel
theorem dX5_moveDownwind_61 : decode cX5_moveDownwind 61 = .ok (.getfield 9, 3) := by decide +kernel
theorem dX5_moveDownwind_64 : decode cX5_moveDownwind 64 = .ok (.getfield 95, 3) := by decide +kernel
theorem dX5_moveDownwind_67 : decode cX5_moveDownwind 67 = .ok (.bipush 11, 2) := by decide +kernel
theorem dX5_moveDownwind_69 : decode cX5_moveDownwind 69 = .ok (.iconst 1, 1) := by decide +kernel
theorem dX5_moveDownwind_70 : decode cX5_moveDownwind 70 = .ok (.invokevirtual 56, 3) := by decide +kernel
theorem dX5_moveDownwind_73 : decode cX5_moveDownwind 73 = .ok (.iload_n 2, 1) := by decide +kernel
theorem dX5_moveDownwind_74 : decode cX5_moveDownwind 74 = .ok (.ireturn, 1) := by decide +kernel
set_option maxRecDepth 20000 in
theorem ggX5_reasonToStay_X1_hasOpenFence : GoodIn wsX5_reasonToStay wsX1_hasOpenFence := goodIn_r _ [7, 8, 9, 10, 11, 12, 13, 14, 15, 44, 45, 46, 47, 48, 49, 50, 51, 52, 53, 54, 55, 56, 57] (by decide +kernel) (by decide +kernel)
set_option maxRecDepth 20000 in
theorem gX5_reasonToStay_X1_hasOpenFence : GoodIn wsX5_reasonToStay (wsV RX5 82 RX1 yX1_hasOpenFence wsX1_hasOpenFence) := goodIn_app (goodIn_of _ (by decide +kernel)) ggX5_reasonToStay_X1_hasOpenFence
set_option maxRecDepth 20000 in
theorem ggX5_reasonToStay_X1_inShadow : GoodIn wsX5_reasonToStay wsX1_inShadow := goodIn_r _ [19, 20, 21, 22, 23, 24, 25, 6, 26, 27, 10, 11, 12, 13, 14, 15, 28, 29, 30, 31, 44, 45, 46, 47, 48, 49, 50, 51, 52, 53, 54, 55, 56, 57] (by decide +kernel) (by decide +kernel)
set_option maxRecDepth 20000 in
theorem gX5_reasonToStay_X1_inShadow : GoodIn wsX5_reasonToStay (wsV RX5 50 RX1 yX1_inShadow wsX1_inShadow) := goodIn_app (goodIn_of _ (by decide +kernel)) ggX5_reasonToStay_X1_inShadow
set_option maxRecDepth 20000 in
theorem ggX5_reasonToStay_X4_at : GoodIn wsX5_reasonToStay wsX4_at := goodIn_r _ [14, 15, 57] (by decide +kernel) (by decide +kernel)
set_option maxRecDepth 20000 in
theorem gX5_reasonToStay_X4_at : GoodIn wsX5_reasonToStay (wsV RX5 41 RX4 yX4_at wsX4_at) := goodIn_app (goodIn_of _ (by decide +kernel)) ggX5_reasonToStay_X4_at
set_option maxRecDepth 20000 in
theorem ggX5_reasonToStay_X1_draw : GoodIn wsX5_reasonToStay wsX1_draw := goodIn_r _ [36, 37, 38, 39, 40, 41, 44, 45, 46, 47, 48, 49, 50, 51, 52, 53, 54, 55, 56] (by decide +kernel) (by decide +kernel)
set_option maxRecDepth 20000 in
theorem gX5_reasonToStay_X1_draw : GoodIn wsX5_reasonToStay (wsV RX5 26 RX1 yX1_draw wsX1_draw) := goodIn_app (goodIn_of _ (by decide +kernel)) ggX5_reasonToStay_X1_draw
theorem dX5_reasonToStay_0 : decode cX5_reasonToStay 0 = .ok (.aload_n 0, 1) := by decide +kernel
theorem dX5_reasonToStay_1 : decode cX5_reasonToStay 1 = .ok (.getfield 9, 3) := by decide +kernel
theorem dX5_reasonToStay_4 : decode cX5_reasonToStay 4 = .ok (.iload_n 1, 1) := by decide +kernel
theorem dX5_reasonToStay_5 : decode cX5_reasonToStay 5 = .ok (.invokevirtual 82, 3) := by decide +kernel
theorem dX5_reasonToStay_8 : decode cX5_reasonToStay 8 = .ok (.ifCond .eq 5, 3) := by decide +kernel
theorem dX5_reasonToStay_11 : decode cX5_reasonToStay 11 = .ok (.iconst 5, 1) := by decide +kernel
theorem dX5_reasonToStay_12 : decode cX5_reasonToStay 12 = .ok (.ireturn, 1) := by decide +kernel
theorem dX5_reasonToStay_13 : decode cX5_reasonToStay 13 = .ok (.aload_n 0, 1) := by decide +kernel
theorem dX5_reasonToStay_14 : decode cX5_reasonToStay 14 = .ok (.getfield 9, 3) := by decide +kernel
theorem dX5_reasonToStay_17 : decode cX5_reasonToStay 17 = .ok (.iload_n 1, 1) := by decide +kernel
theorem dX5_reasonToStay_18 : decode cX5_reasonToStay 18 = .ok (.invokevirtual 50, 3) := by decide +kernel
theorem dX5_reasonToStay_21 : decode cX5_reasonToStay 21 = .ok (.ifCond .eq 6, 3) := by decide +kernel
theorem dX5_reasonToStay_24 : decode cX5_reasonToStay 24 = .ok (.bipush 6, 2) := by decide +kernel
theorem dX5_reasonToStay_26 : decode cX5_reasonToStay 26 = .ok (.ireturn, 1) := by decide +kernel
theorem dX5_reasonToStay_27 : decode cX5_reasonToStay 27 = .ok (.aload_n 0, 1) := by decide +kernel
theorem dX5_reasonToStay_28 : decode cX5_reasonToStay 28 = .ok (.getfield 21, 3) := by decide +kernel
theorem dX5_reasonToStay_31 : decode cX5_reasonToStay 31 = .ok (.iload_n 1, 1) := by decide +kernel
theorem dX5_reasonToStay_32 : decode cX5_reasonToStay 32 = .ok (.invokevirtual 41, 3) := by decide +kernel
theorem dX5_reasonToStay_35 : decode cX5_reasonToStay 35 = .ok (.ifCond .ne 7, 3) := by decide +kernel
theorem dX5_reasonToStay_38 : decode cX5_reasonToStay 38 = .ok (.iconst 2, 1) := by decide +kernel
theorem dX5_reasonToStay_39 : decode cX5_reasonToStay 39 = .ok (.goto 4, 3) := by decide +kernel
theorem dX5_reasonToStay_42 : decode cX5_reasonToStay 42 = .ok (.iconst 1, 1) := by decide +kernel
theorem dX5_reasonToStay_43 : decode cX5_reasonToStay 43 = .ok (.istore_n 3, 1) := by decide +kernel
theorem dX5_reasonToStay_44 : decode cX5_reasonToStay 44 = .ok (.aload_n 0, 1) := by decide +kernel
theorem dX5_reasonToStay_45 : decode cX5_reasonToStay 45 = .ok (.getfield 9, 3) := by decide +kernel
theorem dX5_reasonToStay_48 : decode cX5_reasonToStay 48 = .ok (.bipush 100, 2) := by decide +kernel
theorem dX5_reasonToStay_50 : decode cX5_reasonToStay 50 = .ok (.invokevirtual 26, 3) := by decide +kernel
theorem dX5_reasonToStay_53 : decode cX5_reasonToStay 53 = .ok (.aload_n 0, 1) := by decide +kernel
theorem dX5_reasonToStay_54 : decode cX5_reasonToStay 54 = .ok (.getfield 9, 3) := by decide +kernel
theorem dX5_reasonToStay_57 : decode cX5_reasonToStay 57 = .ok (.getfield 76, 3) := by decide +kernel
theorem dX5_reasonToStay_60 : decode cX5_reasonToStay 60 = .ok (.iload_n 3, 1) := by decide +kernel
theorem dX5_reasonToStay_61 : decode cX5_reasonToStay 61 = .ok (.invokevirtual 41, 3) := by decide +kernel
theorem dX5_reasonToStay_64 : decode cX5_reasonToStay 64 = .ok (.aload_n 0, 1) := by decide +kernel
theorem dX5_reasonToStay_65 : decode cX5_reasonToStay 65 = .ok (.getfield 9, 3) := by decide +kernel
theorem dX5_reasonToStay_68 : decode cX5_reasonToStay 68 = .ok (.getfield 53, 3) := by decide +kernel
theorem dX5_reasonToStay_71 : decode cX5_reasonToStay 71 = .ok (.iload_n 1, 1) := by decide +kernel
theorem dX5_reasonToStay_72 : decode cX5_reasonToStay 72 = .ok (.invokevirtual 41, 3) := by decide +kernel
theorem dX5_reasonToStay_75 : decode cX5_reasonToStay 75 = .ok (.iadd, 1) := by decide +kernel
theorem dX5_reasonToStay_76 : decode cX5_reasonToStay 76 = .ok (.if_icmp .ge 6, 3) := by decide +kernel
theorem dX5_reasonToStay_79 : decode cX5_reasonToStay 79 = .ok (.bipush 7, 2) := by decide +kernel
theorem dX5_reasonToStay_81 : decode cX5_reasonToStay 81 = .ok (.ireturn, 1) := by decide +kernel
theorem dX5_reasonToStay_82 : decode cX5_reasonToStay 82 = .ok (.iload_n 2, 1) := by decide +kernel
theorem dX5_reasonToStay_83 : decode cX5_reasonToStay 83 = .ok (.bipush 12, 2) := by decide +kernel
theorem dX5_reasonToStay_85 : decode cX5_reasonToStay 85 = .ok (.if_icmp .ge 7, 3) := by decide +kernel
theorem dX5_reasonToStay_88 : decode cX5_reasonToStay 88 = .ok (.iconst 0, 1) := by decide +kernel
theorem dX5_reasonToStay_89 : decode cX5_reasonToStay 89 = .ok (.goto 5, 3) := by decide +kernel
theorem dX5_reasonToStay_92 : decode cX5_reasonToStay 92 = .ok (.bipush 8, 2) := by decide +kernel
theorem dX5_reasonToStay_94 : decode cX5_reasonToStay 94 = .ok (.ireturn, 1) := by decide +kernel
set_option maxRecDepth 20000 in
theorem ggX5_slideFrom_X5_lowestNeighbor : GoodIn wsX5_slideFrom wsX5_lowestNeighbor := goodIn_r _ [8, 3, 2, 9, 10, 11, 12, 13, 14, 15, 16, 17, 18, 19, 20, 21, 30, 31, 32, 33, 34, 35, 36, 37, 38, 39, 40, 41, 42, 43, 44, 45] (by decide +kernel) (by decide +kernel)
set_option maxRecDepth 20000 in
theorem gX5_slideFrom_X5_lowestNeighbor : GoodIn wsX5_slideFrom (wsV RX5 99 RX5 yX5_lowestNeighbor wsX5_lowestNeighbor) := goodIn_app (goodIn_of _ (by decide +kernel)) ggX5_slideFrom_X5_lowestNeighbor
set_option maxRecDepth 20000 in
theorem ggX5_slideFrom_X4_at : GoodIn wsX5_slideFrom wsX4_at := goodIn_r _ [20, 21, 45] (by decide +kernel) (by decide +kernel)
set_option maxRecDepth 20000 in
theorem gX5_slideFrom_X4_at : GoodIn wsX5_slideFrom (wsV RX5 41 RX4 yX4_at wsX4_at) := goodIn_app (goodIn_of _ (by decide +kernel)) ggX5_slideFrom_X4_at
set_option maxRecDepth 20000 in
theorem ggX5_slideFrom_X5_slide : GoodIn wsX5_slideFrom wsX5_slide := goodIn_r _ [25, 2, 3, 26, 27, 28, 19, 29, 21, 30, 31, 32, 33, 34, 35, 36, 37, 38, 39, 40, 41, 42, 43, 44, 45] (by decide +kernel) (by decide +kernel)
set_option maxRecDepth 20000 in
theorem gX5_slideFrom_X5_slide : GoodIn wsX5_slideFrom (wsV RX5 102 RX5 yX5_slide wsX5_slide) := goodIn_app (goodIn_of _ (by decide +kernel)) ggX5_slideFrom_X5_slide
theorem dX5_slideFrom_0 : decode cX5_slideFrom 0 = .ok (.iload_n 1, 1) := by decide +kernel
theorem dX5_slideFrom_1 : decode cX5_slideFrom 1 = .ok (.istore_n 2, 1) := by decide +kernel
theorem dX5_slideFrom_2 : decode cX5_slideFrom 2 = .ok (.iconst 0, 1) := by decide +kernel
theorem dX5_slideFrom_3 : decode cX5_slideFrom 3 = .ok (.istore_n 3, 1) := by decide +kernel
theorem dX5_slideFrom_4 : decode cX5_slideFrom 4 = .ok (.iload_n 3, 1) := by decide +kernel
theorem dX5_slideFrom_5 : decode cX5_slideFrom 5 = .ok (.ldc 98, 2) := by decide +kernel
theorem dX5_slideFrom_7 : decode cX5_slideFrom 7 = .ok (.if_icmp .ge 59, 3) := by decide +kernel
theorem dX5_slideFrom_10 : decode cX5_slideFrom 10 = .ok (.aload_n 0, 1) := by decide +kernel
theorem dX5_slideFrom_11 : decode cX5_slideFrom 11 = .ok (.iload_n 2, 1) := by decide +kernel
theorem dX5_slideFrom_12 : decode cX5_slideFrom 12 = .ok (.invokevirtual 99, 3) := by decide +kernel
theorem dX5_slideFrom_15 : decode cX5_slideFrom 15 = .ok (.istore 4, 2) := by decide +kernel
theorem dX5_slideFrom_17 : decode cX5_slideFrom 17 = .ok (.aload_n 0, 1) := by decide +kernel
theorem dX5_slideFrom_18 : decode cX5_slideFrom 18 = .ok (.getfield 21, 3) := by decide +kernel
theorem dX5_slideFrom_21 : decode cX5_slideFrom 21 = .ok (.iload_n 2, 1) := by decide +kernel
theorem dX5_slideFrom_22 : decode cX5_slideFrom 22 = .ok (.invokevirtual 41, 3) := by decide +kernel
theorem dX5_slideFrom_25 : decode cX5_slideFrom 25 = .ok (.aload_n 0, 1) := by decide +kernel
theorem dX5_slideFrom_26 : decode cX5_slideFrom 26 = .ok (.getfield 21, 3) := by decide +kernel
theorem dX5_slideFrom_29 : decode cX5_slideFrom 29 = .ok (.iload 4, 2) := by decide +kernel
theorem dX5_slideFrom_31 : decode cX5_slideFrom 31 = .ok (.invokevirtual 41, 3) := by decide +kernel
theorem dX5_slideFrom_34 : decode cX5_slideFrom 34 = .ok (.isub, 1) := by decide +kernel
theorem dX5_slideFrom_35 : decode cX5_slideFrom 35 = .ok (.aload_n 0, 1) := by decide +kernel
theorem dX5_slideFrom_36 : decode cX5_slideFrom 36 = .ok (.getfield 9, 3) := by decide +kernel
theorem dX5_slideFrom_39 : decode cX5_slideFrom 39 = .ok (.getfield 76, 3) := by decide +kernel
theorem dX5_slideFrom_42 : decode cX5_slideFrom 42 = .ok (.iconst 3, 1) := by decide +kernel
theorem dX5_slideFrom_43 : decode cX5_slideFrom 43 = .ok (.invokevirtual 41, 3) := by decide +kernel
theorem dX5_slideFrom_46 : decode cX5_slideFrom 46 = .ok (.if_icmp .gt 4, 3) := by decide +kernel
theorem dX5_slideFrom_49 : decode cX5_slideFrom 49 = .ok (.return_, 1) := by decide +kernel
theorem dX5_slideFrom_50 : decode cX5_slideFrom 50 = .ok (.aload_n 0, 1) := by decide +kernel
theorem dX5_slideFrom_51 : decode cX5_slideFrom 51 = .ok (.iload_n 2, 1) := by decide +kernel
theorem dX5_slideFrom_52 : decode cX5_slideFrom 52 = .ok (.iload 4, 2) := by decide +kernel
theorem dX5_slideFrom_54 : decode cX5_slideFrom 54 = .ok (.invokevirtual 102, 3) := by decide +kernel
theorem dX5_slideFrom_57 : decode cX5_slideFrom 57 = .ok (.iload 4, 2) := by decide +kernel
theorem dX5_slideFrom_59 : decode cX5_slideFrom 59 = .ok (.istore_n 2, 1) := by decide +kernel
theorem dX5_slideFrom_60 : decode cX5_slideFrom 60 = .ok (.iinc 3 1, 3) := by decide +kernel
theorem dX5_slideFrom_63 : decode cX5_slideFrom 63 = .ok (.goto (-59), 3) := by decide +kernel
theorem dX5_slideFrom_66 : decode cX5_slideFrom 66 = .ok (.return_, 1) := by decide +kernel
set_option maxRecDepth 20000 in
theorem ggX5_slideInto_X5_highestNeighbor : GoodIn wsX5_slideInto wsX5_highestNeighbor := goodIn_r _ [8, 3, 2, 9, 10, 11, 12, 13, 14, 15, 16, 17, 18, 19, 20, 21, 30, 31, 32, 33, 34, 35, 36, 37, 38, 39, 40, 41, 42, 43, 44, 45] (by decide +kernel) (by decide +kernel)
set_option maxRecDepth 20000 in
theorem gX5_slideInto_X5_highestNeighbor : GoodIn wsX5_slideInto (wsV RX5 105 RX5 yX5_highestNeighbor wsX5_highestNeighbor) := goodIn_app (goodIn_of _ (by decide +kernel)) ggX5_slideInto_X5_highestNeighbor
set_option maxRecDepth 20000 in
theorem ggX5_slideInto_X4_at : GoodIn wsX5_slideInto wsX4_at := goodIn_r _ [20, 21, 45] (by decide +kernel) (by decide +kernel)
set_option maxRecDepth 20000 in
theorem gX5_slideInto_X4_at : GoodIn wsX5_slideInto (wsV RX5 41 RX4 yX4_at wsX4_at) := goodIn_app (goodIn_of _ (by decide +kernel)) ggX5_slideInto_X4_at
set_option maxRecDepth 20000 in
theorem ggX5_slideInto_X5_slide : GoodIn wsX5_slideInto wsX5_slide := goodIn_r _ [25, 2, 3, 26, 27, 28, 19, 29, 21, 30, 31, 32, 33, 34, 35, 36, 37, 38, 39, 40, 41, 42, 43, 44, 45] (by decide +kernel) (by decide +kernel)
set_option maxRecDepth 20000 in
theorem gX5_slideInto_X5_slide : GoodIn wsX5_slideInto (wsV RX5 102 RX5 yX5_slide wsX5_slide) := goodIn_app (goodIn_of _ (by decide +kernel)) ggX5_slideInto_X5_slide
theorem dX5_slideInto_0 : decode cX5_slideInto 0 = .ok (.iload_n 1, 1) := by decide +kernel
theorem dX5_slideInto_1 : decode cX5_slideInto 1 = .ok (.istore_n 2, 1) := by decide +kernel
theorem dX5_slideInto_2 : decode cX5_slideInto 2 = .ok (.iconst 0, 1) := by decide +kernel
theorem dX5_slideInto_3 : decode cX5_slideInto 3 = .ok (.istore_n 3, 1) := by decide +kernel
theorem dX5_slideInto_4 : decode cX5_slideInto 4 = .ok (.iload_n 3, 1) := by decide +kernel
theorem dX5_slideInto_5 : decode cX5_slideInto 5 = .ok (.ldc 98, 2) := by decide +kernel
theorem dX5_slideInto_7 : decode cX5_slideInto 7 = .ok (.if_icmp .ge 59, 3) := by decide +kernel
theorem dX5_slideInto_10 : decode cX5_slideInto 10 = .ok (.aload_n 0, 1) := by decide +kernel
theorem dX5_slideInto_11 : decode cX5_slideInto 11 = .ok (.iload_n 2, 1) := by decide +kernel
theorem dX5_slideInto_12 : decode cX5_slideInto 12 = .ok (.invokevirtual 105, 3) := by decide +kernel
theorem dX5_slideInto_15 : decode cX5_slideInto 15 = .ok (.istore 4, 2) := by decide +kernel
theorem dX5_slideInto_17 : decode cX5_slideInto 17 = .ok (.aload_n 0, 1) := by decide +kernel
theorem dX5_slideInto_18 : decode cX5_slideInto 18 = .ok (.getfield 21, 3) := by decide +kernel
theorem dX5_slideInto_21 : decode cX5_slideInto 21 = .ok (.iload 4, 2) := by decide +kernel
theorem dX5_slideInto_23 : decode cX5_slideInto 23 = .ok (.invokevirtual 41, 3) := by decide +kernel
theorem dX5_slideInto_26 : decode cX5_slideInto 26 = .ok (.aload_n 0, 1) := by decide +kernel
theorem dX5_slideInto_27 : decode cX5_slideInto 27 = .ok (.getfield 21, 3) := by decide +kernel
theorem dX5_slideInto_30 : decode cX5_slideInto 30 = .ok (.iload_n 2, 1) := by decide +kernel
theorem dX5_slideInto_31 : decode cX5_slideInto 31 = .ok (.invokevirtual 41, 3) := by decide +kernel
theorem dX5_slideInto_34 : decode cX5_slideInto 34 = .ok (.isub, 1) := by decide +kernel
theorem dX5_slideInto_35 : decode cX5_slideInto 35 = .ok (.aload_n 0, 1) := by decide +kernel
theorem dX5_slideInto_36 : decode cX5_slideInto 36 = .ok (.getfield 9, 3) := by decide +kernel
theorem dX5_slideInto_39 : decode cX5_slideInto 39 = .ok (.getfield 76, 3) := by decide +kernel
theorem dX5_slideInto_42 : decode cX5_slideInto 42 = .ok (.iconst 3, 1) := by decide +kernel
theorem dX5_slideInto_43 : decode cX5_slideInto 43 = .ok (.invokevirtual 41, 3) := by decide +kernel
theorem dX5_slideInto_46 : decode cX5_slideInto 46 = .ok (.if_icmp .gt 4, 3) := by decide +kernel
theorem dX5_slideInto_49 : decode cX5_slideInto 49 = .ok (.return_, 1) := by decide +kernel
theorem dX5_slideInto_50 : decode cX5_slideInto 50 = .ok (.aload_n 0, 1) := by decide +kernel
theorem dX5_slideInto_51 : decode cX5_slideInto 51 = .ok (.iload 4, 2) := by decide +kernel
theorem dX5_slideInto_53 : decode cX5_slideInto 53 = .ok (.iload_n 2, 1) := by decide +kernel
theorem dX5_slideInto_54 : decode cX5_slideInto 54 = .ok (.invokevirtual 102, 3) := by decide +kernel
theorem dX5_slideInto_57 : decode cX5_slideInto 57 = .ok (.iload 4, 2) := by decide +kernel
theorem dX5_slideInto_59 : decode cX5_slideInto 59 = .ok (.istore_n 2, 1) := by decide +kernel
theorem dX5_slideInto_60 : decode cX5_slideInto 60 = .ok (.iinc 3 1, 3) := by decide +kernel
theorem dX5_slideInto_63 : decode cX5_slideInto 63 = .ok (.goto (-59), 3) := by decide +kernel
theorem dX5_slideInto_66 : decode cX5_slideInto 66 = .ok (.return_, 1) := by decide +kernel
set_option maxRecDepth 20000 in
theorem ggX5_slide_X4_add : GoodIn wsX5_slide wsX4_add := goodIn_r _ [7, 8, 24] (by decide +kernel) (by decide +kernel)
set_option maxRecDepth 20000 in
theorem gX5_slide_X4_add : GoodIn wsX5_slide (wsV RX5 56 RX4 yX4_add wsX4_add) := goodIn_app (goodIn_of _ (by decide +kernel)) ggX5_slide_X4_add
theorem dX5_slide_0 : decode cX5_slide 0 = .ok (.aload_n 0, 1) := by decide +kernel
theorem dX5_slide_1 : decode cX5_slide 1 = .ok (.getfield 21, 3) := by decide +kernel
theorem dX5_slide_4 : decode cX5_slide 4 = .ok (.iload_n 1, 1) := by decide +kernel
theorem dX5_slide_5 : decode cX5_slide 5 = .ok (.iconst (-1), 1) := by decide +kernel
theorem dX5_slide_6 : decode cX5_slide 6 = .ok (.invokevirtual 56, 3) := by decide +kernel
theorem dX5_slide_9 : decode cX5_slide 9 = .ok (.aload_n 0, 1) := by decide +kernel
theorem dX5_slide_10 : decode cX5_slide 10 = .ok (.getfield 21, 3) := by decide +kernel
theorem dX5_slide_13 : decode cX5_slide 13 = .ok (.iload_n 2, 1) := by decide +kernel
theorem dX5_slide_14 : decode cX5_slide 14 = .ok (.iconst 1, 1) := by decide +kernel
theorem dX5_slide_15 : decode cX5_slide 15 = .ok (.invokevirtual 56, 3) := by decide +kernel
theorem dX5_slide_18 : decode cX5_slide 18 = .ok (.aload_n 0, 1) := by decide +kernel
theorem dX5_slide_19 : decode cX5_slide 19 = .ok (.getfield 9, 3) := by decide +kernel
theorem dX5_slide_22 : decode cX5_slide 22 = .ok (.getfield 95, 3) := by decide +kernel
theorem dX5_slide_25 : decode cX5_slide 25 = .ok (.bipush 9, 2) := by decide +kernel
theorem dX5_slide_27 : decode cX5_slide 27 = .ok (.iconst 1, 1) := by decide +kernel
theorem dX5_slide_28 : decode cX5_slide 28 = .ok (.invokevirtual 56, 3) := by decide +kernel
theorem dX5_slide_31 : decode cX5_slide 31 = .ok (.return_, 1) := by decide +kernel
set_option maxRecDepth 20000 in
theorem ggX5_lowestNeighbor_X1_neighbor : GoodIn wsX5_lowestNeighbor wsX1_neighbor := goodIn_r _ [7, 8, 9, 18, 19, 20, 21, 22, 23, 24, 25, 26, 27, 28, 29, 30] (by decide +kernel) (by decide +kernel)
set_option maxRecDepth 20000 in
theorem gX5_lowestNeighbor_X1_neighbor : GoodIn wsX5_lowestNeighbor (wsV RX5 88 RX1 yX1_neighbor wsX1_neighbor) := goodIn_app (goodIn_of _ (by decide +kernel)) ggX5_lowestNeighbor_X1_neighbor
set_option maxRecDepth 20000 in
theorem ggX5_lowestNeighbor_X4_at : GoodIn wsX5_lowestNeighbor wsX4_at := goodIn_r _ [14, 15, 31] (by decide +kernel) (by decide +kernel)
set_option maxRecDepth 20000 in
theorem gX5_lowestNeighbor_X4_at : GoodIn wsX5_lowestNeighbor (wsV RX5 41 RX4 yX4_at wsX4_at) := goodIn_app (goodIn_of _ (by decide +kernel)) ggX5_lowestNeighbor_X4_at
theorem dX5_lowestNeighbor_0 : decode cX5_lowestNeighbor 0 = .ok (.aload_n 0, 1) := by decide +kernel
theorem dX5_lowestNeighbor_1 : decode cX5_lowestNeighbor 1 = .ok (.getfield 9, 3) := by decide +kernel
theorem dX5_lowestNeighbor_4 : decode cX5_lowestNeighbor 4 = .ok (.iload_n 1, 1) := by decide +kernel
theorem dX5_lowestNeighbor_5 : decode cX5_lowestNeighbor 5 = .ok (.iconst 0, 1) := by decide +kernel
theorem dX5_lowestNeighbor_6 : decode cX5_lowestNeighbor 6 = .ok (.invokevirtual 88, 3) := by decide +kernel
theorem dX5_lowestNeighbor_9 : decode cX5_lowestNeighbor 9 = .ok (.istore_n 2, 1) := by decide +kernel
theorem dX5_lowestNeighbor_10 : decode cX5_lowestNeighbor 10 = .ok (.iconst 1, 1) := by decide +kernel
theorem dX5_lowestNeighbor_11 : decode cX5_lowestNeighbor 11 = .ok (.istore_n 3, 1) := by decide +kernel
theorem dX5_lowestNeighbor_12 : decode cX5_lowestNeighbor 12 = .ok (.iload_n 3, 1) := by decide +kernel
theorem dX5_lowestNeighbor_13 : decode cX5_lowestNeighbor 13 = .ok (.iconst 4, 1) := by decide +kernel
theorem dX5_lowestNeighbor_14 : decode cX5_lowestNeighbor 14 = .ok (.if_icmp .ge 43, 3) := by decide +kernel
theorem dX5_lowestNeighbor_17 : decode cX5_lowestNeighbor 17 = .ok (.aload_n 0, 1) := by decide +kernel
theorem dX5_lowestNeighbor_18 : decode cX5_lowestNeighbor 18 = .ok (.getfield 9, 3) := by decide +kernel
theorem dX5_lowestNeighbor_21 : decode cX5_lowestNeighbor 21 = .ok (.iload_n 1, 1) := by decide +kernel
theorem dX5_lowestNeighbor_22 : decode cX5_lowestNeighbor 22 = .ok (.iload_n 3, 1) := by decide +kernel
theorem dX5_lowestNeighbor_23 : decode cX5_lowestNeighbor 23 = .ok (.invokevirtual 88, 3) := by decide +kernel
theorem dX5_lowestNeighbor_26 : decode cX5_lowestNeighbor 26 = .ok (.istore 4, 2) := by decide +kernel
theorem dX5_lowestNeighbor_28 : decode cX5_lowestNeighbor 28 = .ok (.aload_n 0, 1) := by decide +kernel
theorem dX5_lowestNeighbor_29 : decode cX5_lowestNeighbor 29 = .ok (.getfield 21, 3) := by decide +kernel
theorem dX5_lowestNeighbor_32 : decode cX5_lowestNeighbor 32 = .ok (.iload 4, 2) := by decide +kernel
theorem dX5_lowestNeighbor_34 : decode cX5_lowestNeighbor 34 = .ok (.invokevirtual 41, 3) := by decide +kernel
theorem dX5_lowestNeighbor_37 : decode cX5_lowestNeighbor 37 = .ok (.aload_n 0, 1) := by decide +kernel
theorem dX5_lowestNeighbor_38 : decode cX5_lowestNeighbor 38 = .ok (.getfield 21, 3) := by decide +kernel
theorem dX5_lowestNeighbor_41 : decode cX5_lowestNeighbor 41 = .ok (.iload_n 2, 1) := by decide +kernel
theorem dX5_lowestNeighbor_42 : decode cX5_lowestNeighbor 42 = .ok (.invokevirtual 41, 3) := by decide +kernel
theorem dX5_lowestNeighbor_45 : decode cX5_lowestNeighbor 45 = .ok (.if_icmp .ge 6, 3) := by decide +kernel
theorem dX5_lowestNeighbor_48 : decode cX5_lowestNeighbor 48 = .ok (.iload 4, 2) := by decide +kernel
theorem dX5_lowestNeighbor_50 : decode cX5_lowestNeighbor 50 = .ok (.istore_n 2, 1) := by decide +kernel
theorem dX5_lowestNeighbor_51 : decode cX5_lowestNeighbor 51 = .ok (.iinc 3 1, 3) := by decide +kernel
theorem dX5_lowestNeighbor_54 : decode cX5_lowestNeighbor 54 = .ok (.goto (-42), 3) := by decide +kernel
theorem dX5_lowestNeighbor_57 : decode cX5_lowestNeighbor 57 = .ok (.iload_n 2, 1) := by decide +kernel
theorem dX5_lowestNeighbor_58 : decode cX5_lowestNeighbor 58 = .ok (.ireturn, 1) := by decide +kernel
set_option maxRecDepth 20000 in
theorem ggX5_highestNeighbor_X1_neighbor : GoodIn wsX5_highestNeighbor wsX1_neighbor := goodIn_r _ [7, 8, 9, 18, 19, 20, 21, 22, 23, 24, 25, 26, 27, 28, 29, 30] (by decide +kernel) (by decide +kernel)
set_option maxRecDepth 20000 in
theorem gX5_highestNeighbor_X1_neighbor : GoodIn wsX5_highestNeighbor (wsV RX5 88 RX1 yX1_neighbor wsX1_neighbor) := goodIn_app (goodIn_of _ (by decide +kernel)) ggX5_highestNeighbor_X1_neighbor
set_option maxRecDepth 20000 in
theorem ggX5_highestNeighbor_X4_at : GoodIn wsX5_highestNeighbor wsX4_at := goodIn_r _ [14, 15, 31] (by decide +kernel) (by decide +kernel)
set_option maxRecDepth 20000 in
theorem gX5_highestNeighbor_X4_at : GoodIn wsX5_highestNeighbor (wsV RX5 41 RX4 yX4_at wsX4_at) := goodIn_app (goodIn_of _ (by decide +kernel)) ggX5_highestNeighbor_X4_at
theorem dX5_highestNeighbor_0 : decode cX5_highestNeighbor 0 = .ok (.aload_n 0, 1) := by decide +kernel
theorem dX5_highestNeighbor_1 : decode cX5_highestNeighbor 1 = .ok (.getfield 9, 3) := by decide +kernel
theorem dX5_highestNeighbor_4 : decode cX5_highestNeighbor 4 = .ok (.iload_n 1, 1) := by decide +kernel
theorem dX5_highestNeighbor_5 : decode cX5_highestNeighbor 5 = .ok (.iconst 0, 1) := by decide +kernel
theorem dX5_highestNeighbor_6 : decode cX5_highestNeighbor 6 = .ok (.invokevirtual 88, 3) := by decide +kernel
theorem dX5_highestNeighbor_9 : decode cX5_highestNeighbor 9 = .ok (.istore_n 2, 1) := by decide +kernel
theorem dX5_highestNeighbor_10 : decode cX5_highestNeighbor 10 = .ok (.iconst 1, 1) := by decide +kernel
theorem dX5_highestNeighbor_11 : decode cX5_highestNeighbor 11 = .ok (.istore_n 3, 1) := by decide +kernel
theorem dX5_highestNeighbor_12 : decode cX5_highestNeighbor 12 = .ok (.iload_n 3, 1) := by decide +kernel
theorem dX5_highestNeighbor_13 : decode cX5_highestNeighbor 13 = .ok (.iconst 4, 1) := by decide +kernel
theorem dX5_highestNeighbor_14 : decode cX5_highestNeighbor 14 = .ok (.if_icmp .ge 43, 3) := by decide +kernel
theorem dX5_highestNeighbor_17 : decode cX5_highestNeighbor 17 = .ok (.aload_n 0, 1) := by decide +kernel
theorem dX5_highestNeighbor_18 : decode cX5_highestNeighbor 18 = .ok (.getfield 9, 3) := by decide +kernel
theorem dX5_highestNeighbor_21 : decode cX5_highestNeighbor 21 = .ok (.iload_n 1, 1) := by decide +kernel
theorem dX5_highestNeighbor_22 : decode cX5_highestNeighbor 22 = .ok (.iload_n 3, 1) := by decide +kernel
theorem dX5_highestNeighbor_23 : decode cX5_highestNeighbor 23 = .ok (.invokevirtual 88, 3) := by decide +kernel
theorem dX5_highestNeighbor_26 : decode cX5_highestNeighbor 26 = .ok (.istore 4, 2) := by decide +kernel
theorem dX5_highestNeighbor_28 : decode cX5_highestNeighbor 28 = .ok (.aload_n 0, 1) := by decide +kernel
theorem dX5_highestNeighbor_29 : decode cX5_highestNeighbor 29 = .ok (.getfield 21, 3) := by decide +kernel
theorem dX5_highestNeighbor_32 : decode cX5_highestNeighbor 32 = .ok (.iload 4, 2) := by decide +kernel
theorem dX5_highestNeighbor_34 : decode cX5_highestNeighbor 34 = .ok (.invokevirtual 41, 3) := by decide +kernel
theorem dX5_highestNeighbor_37 : decode cX5_highestNeighbor 37 = .ok (.aload_n 0, 1) := by decide +kernel
theorem dX5_highestNeighbor_38 : decode cX5_highestNeighbor 38 = .ok (.getfield 21, 3) := by decide +kernel
theorem dX5_highestNeighbor_41 : decode cX5_highestNeighbor 41 = .ok (.iload_n 2, 1) := by decide +kernel
theorem dX5_highestNeighbor_42 : decode cX5_highestNeighbor 42 = .ok (.invokevirtual 41, 3) := by decide +kernel
theorem dX5_highestNeighbor_45 : decode cX5_highestNeighbor 45 = .ok (.if_icmp .le 6, 3) := by decide +kernel
theorem dX5_highestNeighbor_48 : decode cX5_highestNeighbor 48 = .ok (.iload 4, 2) := by decide +kernel
theorem dX5_highestNeighbor_50 : decode cX5_highestNeighbor 50 = .ok (.istore_n 2, 1) := by decide +kernel
theorem dX5_highestNeighbor_51 : decode cX5_highestNeighbor 51 = .ok (.iinc 3 1, 3) := by decide +kernel
theorem dX5_highestNeighbor_54 : decode cX5_highestNeighbor 54 = .ok (.goto (-42), 3) := by decide +kernel
theorem dX5_highestNeighbor_57 : decode cX5_highestNeighbor 57 = .ok (.iload_n 2, 1) := by decide +kernel
theorem dX5_highestNeighbor_58 : decode cX5_highestNeighbor 58 = .ok (.ireturn, 1) := by decide +kernel
set_option maxRecDepth 20000 in
theorem ggX5_noteStep_X4_add : GoodIn wsX5_noteStep wsX4_add := goodIn_r _ [6, 7, 27] (by decide +kernel) (by decide +kernel)
set_option maxRecDepth 20000 in
theorem gX5_noteStep_X4_add : GoodIn wsX5_noteStep (wsV RX5 56 RX4 yX4_add wsX4_add) := goodIn_app (goodIn_of _ (by decide +kernel)) ggX5_noteStep_X4_add
set_option maxRecDepth 20000 in
theorem ggX5_noteStep_X4_put : GoodIn wsX5_noteStep wsX4_put := goodIn_r _ [11, 7, 27] (by decide +kernel) (by decide +kernel)
set_option maxRecDepth 20000 in
theorem gX5_noteStep_X4_put : GoodIn wsX5_noteStep (wsV RX5 111 RX4 yX4_put wsX4_put) := goodIn_app (goodIn_of _ (by decide +kernel)) ggX5_noteStep_X4_put
theorem dX5_noteStep_0 : decode cX5_noteStep 0 = .ok (.aload_n 0, 1) := by decide +kernel
theorem dX5_noteStep_1 : decode cX5_noteStep 1 = .ok (.getfield 9, 3) := by decide +kernel
theorem dX5_noteStep_4 : decode cX5_noteStep 4 = .ok (.getfield 95, 3) := by decide +kernel
theorem dX5_noteStep_7 : decode cX5_noteStep 7 = .ok (.iconst 0, 1) := by decide +kernel
theorem dX5_noteStep_8 : decode cX5_noteStep 8 = .ok (.iconst 1, 1) := by decide +kernel
theorem dX5_noteStep_9 : decode cX5_noteStep 9 = .ok (.invokevirtual 56, 3) := by decide +kernel
theorem dX5_noteStep_12 : decode cX5_noteStep 12 = .ok (.aload_n 0, 1) := by decide +kernel
theorem dX5_noteStep_13 : decode cX5_noteStep 13 = .ok (.getfield 9, 3) := by decide +kernel
theorem dX5_noteStep_16 : decode cX5_noteStep 16 = .ok (.getfield 95, 3) := by decide +kernel
theorem dX5_noteStep_19 : decode cX5_noteStep 19 = .ok (.iload_n 1, 1) := by decide +kernel
theorem dX5_noteStep_20 : decode cX5_noteStep 20 = .ok (.iconst 1, 1) := by decide +kernel
theorem dX5_noteStep_21 : decode cX5_noteStep 21 = .ok (.invokevirtual 56, 3) := by decide +kernel
theorem dX5_noteStep_24 : decode cX5_noteStep 24 = .ok (.aload_n 0, 1) := by decide +kernel
theorem dX5_noteStep_25 : decode cX5_noteStep 25 = .ok (.getfield 9, 3) := by decide +kernel
theorem dX5_noteStep_28 : decode cX5_noteStep 28 = .ok (.getfield 108, 3) := by decide +kernel
theorem dX5_noteStep_31 : decode cX5_noteStep 31 = .ok (.iconst 0, 1) := by decide +kernel
theorem dX5_noteStep_32 : decode cX5_noteStep 32 = .ok (.iload_n 1, 1) := by decide +kernel
theorem dX5_noteStep_33 : decode cX5_noteStep 33 = .ok (.invokevirtual 111, 3) := by decide +kernel
theorem dX5_noteStep_36 : decode cX5_noteStep 36 = .ok (.aload_n 0, 1) := by decide +kernel
theorem dX5_noteStep_37 : decode cX5_noteStep 37 = .ok (.getfield 9, 3) := by decide +kernel
theorem dX5_noteStep_40 : decode cX5_noteStep 40 = .ok (.getfield 108, 3) := by decide +kernel
theorem dX5_noteStep_43 : decode cX5_noteStep 43 = .ok (.iconst 1, 1) := by decide +kernel
theorem dX5_noteStep_44 : decode cX5_noteStep 44 = .ok (.iload_n 2, 1) := by decide +kernel
theorem dX5_noteStep_45 : decode cX5_noteStep 45 = .ok (.invokevirtual 111, 3) := by decide +kernel
theorem dX5_noteStep_48 : decode cX5_noteStep 48 = .ok (.aload_n 0, 1) := by decide +kernel
theorem dX5_noteStep_49 : decode cX5_noteStep 49 = .ok (.getfield 9, 3) := by decide +kernel
theorem dX5_noteStep_52 : decode cX5_noteStep 52 = .ok (.getfield 108, 3) := by decide +kernel
theorem dX5_noteStep_55 : decode cX5_noteStep 55 = .ok (.iconst 2, 1) := by decide +kernel
theorem dX5_noteStep_56 : decode cX5_noteStep 56 = .ok (.iload_n 3, 1) := by decide +kernel
theorem dX5_noteStep_57 : decode cX5_noteStep 57 = .ok (.invokevirtual 111, 3) := by decide +kernel
theorem dX5_noteStep_60 : decode cX5_noteStep 60 = .ok (.aload_n 0, 1) := by decide +kernel
theorem dX5_noteStep_61 : decode cX5_noteStep 61 = .ok (.getfield 9, 3) := by decide +kernel
theorem dX5_noteStep_64 : decode cX5_noteStep 64 = .ok (.getfield 108, 3) := by decide +kernel
theorem dX5_noteStep_67 : decode cX5_noteStep 67 = .ok (.iconst 3, 1) := by decide +kernel
theorem dX5_noteStep_68 : decode cX5_noteStep 68 = .ok (.iload 4, 2) := by decide +kernel
theorem dX5_noteStep_70 : decode cX5_noteStep 70 = .ok (.invokevirtual 111, 3) := by decide +kernel
theorem dX5_noteStep_73 : decode cX5_noteStep 73 = .ok (.return_, 1) := by decide +kernel
theorem dJ9_abs_0f7a4_0 : decode cJ9_abs_0f7a4 0 = .ok (.iload_n 0, 1) := by decide +kernel
theorem dJ9_abs_0f7a4_1 : decode cJ9_abs_0f7a4 1 = .ok (.ifCond .ge 8, 3) := by decide +kernel
theorem dJ9_abs_0f7a4_4 : decode cJ9_abs_0f7a4 4 = .ok (.iload_n 0, 1) := by decide +kernel
theorem dJ9_abs_0f7a4_5 : decode cJ9_abs_0f7a4 5 = .ok (.ineg, 1) := by decide +kernel
theorem dJ9_abs_0f7a4_6 : decode cJ9_abs_0f7a4 6 = .ok (.goto 4, 3) := by decide +kernel
theorem dJ9_abs_0f7a4_9 : decode cJ9_abs_0f7a4 9 = .ok (.iload_n 0, 1) := by decide +kernel
theorem dJ9_abs_0f7a4_10 : decode cJ9_abs_0f7a4 10 = .ok (.ireturn, 1) := by decide +kernel
theorem dJ9_max_7cf53_0 : decode cJ9_max_7cf53 0 = .ok (.iload_n 0, 1) := by decide +kernel
theorem dJ9_max_7cf53_1 : decode cJ9_max_7cf53 1 = .ok (.iload_n 1, 1) := by decide +kernel
theorem dJ9_max_7cf53_2 : decode cJ9_max_7cf53 2 = .ok (.if_icmp .lt 7, 3) := by decide +kernel
theorem dJ9_max_7cf53_5 : decode cJ9_max_7cf53 5 = .ok (.iload_n 0, 1) := by decide +kernel
theorem dJ9_max_7cf53_6 : decode cJ9_max_7cf53 6 = .ok (.goto 4, 3) := by decide +kernel
theorem dJ9_max_7cf53_9 : decode cJ9_max_7cf53 9 = .ok (.iload_n 1, 1) := by decide +kernel
theorem dJ9_max_7cf53_10 : decode cJ9_max_7cf53 10 = .ok (.ireturn, 1) := by decide +kernel
theorem dJ9_min_7cf53_0 : decode cJ9_min_7cf53 0 = .ok (.iload_n 0, 1) := by decide +kernel
theorem dJ9_min_7cf53_1 : decode cJ9_min_7cf53 1 = .ok (.iload_n 1, 1) := by decide +kernel
theorem dJ9_min_7cf53_2 : decode cJ9_min_7cf53 2 = .ok (.if_icmp .gt 7, 3) := by decide +kernel
theorem dJ9_min_7cf53_5 : decode cJ9_min_7cf53 5 = .ok (.iload_n 0, 1) := by decide +kernel
theorem dJ9_min_7cf53_6 : decode cJ9_min_7cf53 6 = .ok (.goto 4, 3) := by decide +kernel
theorem dJ9_min_7cf53_9 : decode cJ9_min_7cf53 9 = .ok (.iload_n 1, 1) := by decide +kernel
theorem dJ9_min_7cf53_10 : decode cJ9_min_7cf53 10 = .ok (.ireturn, 1) := by decide +kernel
