set_option maxRecDepth 20000 in
theorem gX7_run_X7_goes : GoodIn wsX7_run (wsV RX7 66 RX7 yX7_goes wsX7_goes) := goodIn_app (goodIn_of _ (by decide +kernel)) ggX7_run_X7_goes
set_option maxRecDepth 20000 in
theorem ggX7_run_X7_save : GoodIn wsX7_run wsX7_save := goodIn_r _ [14, 15, 16, 17, 95, 96, 97, 98, 99, 100, 101, 102, 103, 104, 105, 106, 107] (by decide +kernel) (by decide +kernel)
set_option maxRecDepth 20000 in
theorem gX7_run_X7_save : GoodIn wsX7_run (wsV RX7 70 RX7 yX7_save wsX7_save) := goodIn_app (goodIn_of _ (by decide +kernel)) ggX7_run_X7_save
set_option maxRecDepth 20000 in
theorem ggX7_run_X7_runs : GoodIn wsX7_run wsX7_runs := goodIn_r _ [21, 22, 23, 24, 4, 25, 26, 27, 17, 28, 29, 30, 31, 32, 33, 34, 35, 36, 37, 38, 39, 40, 41, 42, 43, 44, 45, 46, 47, 48, 49, 50, 51, 52, 53, 54, 55, 56, 57, 58, 59, 60, 61, 62, 63, 64, 65, 66, 67, 68, 69, 70, 71, 72, 73, 74, 75, 76, 77, 78, 79, 80, 81, 82, 83, 84, 85, 86, 87, 88, 89, 90, 91, 92, 93, 94, 95, 96, 97, 98, 99, 100, 101, 102, 103, 104, 105, 106, 107] (by decide +kernel) (by decide +kernel)
set_option maxRecDepth 20000 in
theorem gX7_run_X7_runs : GoodIn wsX7_run (wsV RX7 165 RX7 yX7_runs wsX7_runs) := goodIn_app (goodIn_of _ (by decide +kernel)) ggX7_run_X7_runs
theorem dX7_run_0 : decode cX7_run 0 = .ok (.aload_n 0, 1) := by decide +kernel
theorem dX7_run_1 : decode cX7_run 1 = .ok (.iload_n 1, 1) := by decide +kernel
theorem dX7_run_2 : decode cX7_run 2 = .ok (.i2l, 1) := by decide +kernel
theorem dX7_run_3 : decode cX7_run 3 = .ok (.lconst 0, 1) := by decide +kernel
theorem dX7_run_4 : decode cX7_run 4 = .ok (.ldc2_w 163, 3) := by decide +kernel
theorem dX7_run_7 : decode cX7_run 7 = .ok (.invokestatic 47, 3) := by decide +kernel
theorem dX7_run_10 : decode cX7_run 10 = .ok (.iconst 1, 1) := by decide +kernel
theorem dX7_run_11 : decode cX7_run 11 = .ok (.invokevirtual 66, 3) := by decide +kernel
theorem dX7_run_14 : decode cX7_run 14 = .ok (.ifCond .ne 5, 3) := by decide +kernel
theorem dX7_run_17 : decode cX7_run 17 = .ok (.iconst 0, 1) := by decide +kernel
theorem dX7_run_18 : decode cX7_run 18 = .ok (.ireturn, 1) := by decide +kernel
theorem dX7_run_19 : decode cX7_run 19 = .ok (.aload_n 0, 1) := by decide +kernel
theorem dX7_run_20 : decode cX7_run 20 = .ok (.invokevirtual 70, 3) := by decide +kernel
theorem dX7_run_23 : decode cX7_run 23 = .ok (.aload_n 0, 1) := by decide +kernel
theorem dX7_run_24 : decode cX7_run 24 = .ok (.iload_n 1, 1) := by decide +kernel
theorem dX7_run_25 : decode cX7_run 25 = .ok (.invokevirtual 165, 3) := by decide +kernel
theorem dX7_run_28 : decode cX7_run 28 = .ok (.ireturn, 1) := by decide +kernel
set_option maxRecDepth 20000 in
theorem ggX7_season_X7_save : GoodIn wsX7_season wsX7_save := goodIn_r _ [9, 10, 11, 4, 26, 27, 28, 29, 30, 31, 32, 33, 34, 35, 36, 37, 38] (by decide +kernel) (by decide +kernel)
set_option maxRecDepth 20000 in
theorem gX7_season_X7_save : GoodIn wsX7_season (wsV RX7 70 RX7 yX7_save wsX7_save) := goodIn_app (goodIn_of _ (by decide +kernel)) ggX7_season_X7_save
set_option maxRecDepth 20000 in
theorem ggX7_season_X7_cells : GoodIn wsX7_season wsX7_cells := goodIn_r _ [15, 4, 26, 27, 28, 29, 30, 31, 32, 33, 34, 35, 36, 37, 38] (by decide +kernel) (by decide +kernel)
set_option maxRecDepth 20000 in
theorem gX7_season_X7_cells : GoodIn wsX7_season (wsV RX7 43 RX7 yX7_cells wsX7_cells) := goodIn_app (goodIn_of _ (by decide +kernel)) ggX7_season_X7_cells
set_option maxRecDepth 20000 in
theorem ggX7_season_X7_of : GoodIn wsX7_season wsX7_of := goodIn_r _ [19, 4, 20, 21, 8, 22, 26, 27, 28, 29, 30, 31, 32, 33, 34, 35, 36, 37, 38] (by decide +kernel) (by decide +kernel)
set_option maxRecDepth 20000 in
theorem gX7_season_X7_of : GoodIn wsX7_season (wsV RX7 79 RX7 yX7_of wsX7_of) := goodIn_app (goodIn_of _ (by decide +kernel)) ggX7_season_X7_of
set_option maxRecDepth 20000 in
theorem ggX7_season_X7_in : GoodIn wsX7_season wsX7_in := goodIn_r _ [25] (by decide +kernel) (by decide +kernel)
set_option maxRecDepth 20000 in
theorem gX7_season_X7_in : GoodIn wsX7_season (va_wsS RX7 47 yX7_in wsX7_in) := goodIn_app (goodIn_of _ (by decide +kernel)) ggX7_season_X7_in
set_option maxRecDepth 20000 in
theorem ggX7_season_X7_at : GoodIn wsX7_season wsX7_at := goodIn_r _ [22] (by decide +kernel) (by decide +kernel)
set_option maxRecDepth 20000 in
theorem gX7_season_X7_at : GoodIn wsX7_season (va_wsS RX7 39 yX7_at wsX7_at) := goodIn_app (goodIn_of _ (by decide +kernel)) ggX7_season_X7_at
theorem dX7_season_0 : decode cX7_season 0 = .ok (.aload_n 0, 1) := by decide +kernel
theorem dX7_season_1 : decode cX7_season 1 = .ok (.iconst 0, 1) := by decide +kernel
theorem dX7_season_2 : decode cX7_season 2 = .ok (.putfield 32, 3) := by decide +kernel
theorem dX7_season_5 : decode cX7_season 5 = .ok (.aload_n 0, 1) := by decide +kernel
theorem dX7_season_6 : decode cX7_season 6 = .ok (.invokevirtual 70, 3) := by decide +kernel
theorem dX7_season_9 : decode cX7_season 9 = .ok (.iconst 0, 1) := by decide +kernel
theorem dX7_season_10 : decode cX7_season 10 = .ok (.istore_n 1, 1) := by decide +kernel
theorem dX7_season_11 : decode cX7_season 11 = .ok (.iconst 0, 1) := by decide +kernel
theorem dX7_season_12 : decode cX7_season 12 = .ok (.istore_n 2, 1) := by decide +kernel
theorem dX7_season_13 : decode cX7_season 13 = .ok (.iload_n 2, 1) := by decide +kernel
theorem dX7_season_14 : decode cX7_season 14 = .ok (.aload_n 0, 1) := by decide +kernel
theorem dX7_season_15 : decode cX7_season 15 = .ok (.invokevirtual 43, 3) := by decide +kernel
theorem dX7_season_18 : decode cX7_season 18 = .ok (.if_icmp .ge 148, 3) := by decide +kernel
theorem dX7_season_21 : decode cX7_season 21 = .ok (.aload_n 0, 1) := by decide +kernel
theorem dX7_season_22 : decode cX7_season 22 = .ok (.iload_n 2, 1) := by decide +kernel
theorem dX7_season_23 : decode cX7_season 23 = .ok (.iconst 0, 1) := by decide +kernel
theorem dX7_season_24 : decode cX7_season 24 = .ok (.invokevirtual 79, 3) := by decide +kernel
theorem dX7_season_27 : decode cX7_season 27 = .ok (.aload_n 0, 1) := by decide +kernel
theorem dX7_season_28 : decode cX7_season 28 = .ok (.iload_n 2, 1) := by decide +kernel
theorem dX7_season_29 : decode cX7_season 29 = .ok (.iconst 4, 1) := by decide +kernel
theorem dX7_season_30 : decode cX7_season 30 = .ok (.invokevirtual 79, 3) := by decide +kernel
theorem dX7_season_33 : decode cX7_season 33 = .ok (.isub, 1) := by decide +kernel
theorem dX7_season_34 : decode cX7_season 34 = .ok (.istore_n 3, 1) := by decide +kernel
theorem dX7_season_35 : decode cX7_season 35 = .ok (.aload_n 0, 1) := by decide +kernel
theorem dX7_season_36 : decode cX7_season 36 = .ok (.iload_n 2, 1) := by decide +kernel
theorem dX7_season_37 : decode cX7_season 37 = .ok (.iconst 1, 1) := by decide +kernel
theorem dX7_season_38 : decode cX7_season 38 = .ok (.invokevirtual 79, 3) := by decide +kernel
theorem dX7_season_41 : decode cX7_season 41 = .ok (.istore 4, 2) := by decide +kernel
theorem dX7_season_43 : decode cX7_season 43 = .ok (.iload 4, 2) := by decide +kernel
theorem dX7_season_45 : decode cX7_season 45 = .ok (.ifCond .le 21, 3) := by decide +kernel
theorem dX7_season_48 : decode cX7_season 48 = .ok (.iload_n 3, 1) := by decide +kernel
theorem dX7_season_49 : decode cX7_season 49 = .ok (.i2l, 1) := by decide +kernel
theorem dX7_season_50 : decode cX7_season 50 = .ok (.ldc2_w 168, 3) := by decide +kernel
theorem dX7_season_53 : decode cX7_season 53 = .ok (.ldc2_w 93, 3) := by decide +kernel
theorem dX7_season_56 : decode cX7_season 56 = .ok (.invokestatic 47, 3) := by decide +kernel
theorem dX7_season_59 : decode cX7_season 59 = .ok (.ifCond .ne 7, 3) := by decide +kernel
theorem dX7_season_62 : decode cX7_season 62 = .ok (.iconst 1, 1) := by decide +kernel
theorem dX7_season_63 : decode cX7_season 63 = .ok (.goto 4, 3) := by decide +kernel
theorem dX7_season_66 : decode cX7_season 66 = .ok (.iconst 0, 1) := by decide +kernel
theorem dX7_season_67 : decode cX7_season 67 = .ok (.istore 5, 2) := by decide +kernel
theorem dX7_season_69 : decode cX7_season 69 = .ok (.iload 5, 2) := by decide +kernel
theorem dX7_season_71 : decode cX7_season 71 = .ok (.ifCond .eq 11, 3) := by decide +kernel
theorem dX7_season_74 : decode cX7_season 74 = .ok (.iload 4, 2) := by decide +kernel
theorem dX7_season_76 : decode cX7_season 76 = .ok (.bipush 30, 2) := by decide +kernel
theorem dX7_season_78 : decode cX7_season 78 = .ok (.isub, 1) := by decide +kernel
theorem dX7_season_79 : decode cX7_season 79 = .ok (.goto 17, 3) := by decide +kernel
theorem dX7_season_82 : decode cX7_season 82 = .ok (.iload 4, 2) := by decide +kernel
theorem dX7_season_84 : decode cX7_season 84 = .ok (.ifCond .le 11, 3) := by decide +kernel
theorem dX7_season_87 : decode cX7_season 87 = .ok (.iload 4, 2) := by decide +kernel
theorem dX7_season_89 : decode cX7_season 89 = .ok (.bipush 10, 2) := by decide +kernel
theorem dX7_season_91 : decode cX7_season 91 = .ok (.iadd, 1) := by decide +kernel
theorem dX7_season_92 : decode cX7_season 92 = .ok (.goto 4, 3) := by decide +kernel
theorem dX7_season_95 : decode cX7_season 95 = .ok (.iconst 0, 1) := by decide +kernel
theorem dX7_season_96 : decode cX7_season 96 = .ok (.istore 6, 2) := by decide +kernel
theorem dX7_season_98 : decode cX7_season 98 = .ok (.aload_n 0, 1) := by decide +kernel
theorem dX7_season_99 : decode cX7_season 99 = .ok (.getfield 7, 3) := by decide +kernel
theorem dX7_season_102 : decode cX7_season 102 = .ok (.iload_n 2, 1) := by decide +kernel
theorem dX7_season_103 : decode cX7_season 103 = .ok (.iconst 1, 1) := by decide +kernel
theorem dX7_season_104 : decode cX7_season 104 = .ok (.invokestatic 39, 3) := by decide +kernel
theorem dX7_season_107 : decode cX7_season 107 = .ok (.iload 6, 2) := by decide +kernel
theorem dX7_season_109 : decode cX7_season 109 = .ok (.ifCond .ge 7, 3) := by decide +kernel
theorem dX7_season_112 : decode cX7_season 112 = .ok (.iconst 0, 1) := by decide +kernel
theorem dX7_season_113 : decode cX7_season 113 = .ok (.goto 17, 3) := by decide +kernel
theorem dX7_season_116 : decode cX7_season 116 = .ok (.iload 6, 2) := by decide +kernel
theorem dX7_season_118 : decode cX7_season 118 = .ok (.bipush 100, 2) := by decide +kernel
theorem dX7_season_120 : decode cX7_season 120 = .ok (.if_icmp .le 8, 3) := by decide +kernel
theorem dX7_season_123 : decode cX7_season 123 = .ok (.bipush 100, 2) := by decide +kernel
theorem dX7_season_125 : decode cX7_season 125 = .ok (.goto 5, 3) := by decide +kernel
theorem dX7_season_128 : decode cX7_season 128 = .ok (.iload 6, 2) := by decide +kernel
theorem dX7_season_130 : decode cX7_season 130 = .ok (.iastore, 1) := by decide +kernel
theorem dX7_season_131 : decode cX7_season 131 = .ok (.aload_n 0, 1) := by decide +kernel
theorem dX7_season_132 : decode cX7_season 132 = .ok (.getfield 7, 3) := by decide +kernel
theorem dX7_season_135 : decode cX7_season 135 = .ok (.iload_n 2, 1) := by decide +kernel
theorem dX7_season_136 : decode cX7_season 136 = .ok (.iconst 4, 1) := by decide +kernel
theorem dX7_season_137 : decode cX7_season 137 = .ok (.invokestatic 39, 3) := by decide +kernel
theorem dX7_season_140 : decode cX7_season 140 = .ok (.aload_n 0, 1) := by decide +kernel
theorem dX7_season_141 : decode cX7_season 141 = .ok (.iload_n 2, 1) := by decide +kernel
theorem dX7_season_142 : decode cX7_season 142 = .ok (.iconst 0, 1) := by decide +kernel
theorem dX7_season_143 : decode cX7_season 143 = .ok (.invokevirtual 79, 3) := by decide +kernel
theorem dX7_season_146 : decode cX7_season 146 = .ok (.iastore, 1) := by decide +kernel
theorem dX7_season_147 : decode cX7_season 147 = .ok (.iload_n 1, 1) := by decide +kernel
theorem dX7_season_148 : decode cX7_season 148 = .ok (.iload 5, 2) := by decide +kernel
theorem dX7_season_150 : decode cX7_season 150 = .ok (.ifCond .eq 7, 3) := by decide +kernel
theorem dX7_season_153 : decode cX7_season 153 = .ok (.iconst 1, 1) := by decide +kernel
theorem dX7_season_154 : decode cX7_season 154 = .ok (.goto 4, 3) := by decide +kernel
theorem dX7_season_157 : decode cX7_season 157 = .ok (.iconst 0, 1) := by decide +kernel
theorem dX7_season_158 : decode cX7_season 158 = .ok (.iadd, 1) := by decide +kernel
theorem dX7_season_159 : decode cX7_season 159 = .ok (.istore_n 1, 1) := by decide +kernel
theorem dX7_season_160 : decode cX7_season 160 = .ok (.iinc 2 1, 3) := by decide +kernel
theorem dX7_season_163 : decode cX7_season 163 = .ok (.goto (-150), 3) := by decide +kernel
theorem dX7_season_166 : decode cX7_season 166 = .ok (.aload_n 0, 1) := by decide +kernel
theorem dX7_season_167 : decode cX7_season 167 = .ok (.getfield 7, 3) := by decide +kernel
theorem dX7_season_170 : decode cX7_season 170 = .ok (.bipush 8, 2) := by decide +kernel
theorem dX7_season_172 : decode cX7_season 172 = .ok (.dup2, 1) := by decide +kernel
theorem dX7_season_173 : decode cX7_season 173 = .ok (.iaload, 1) := by decide +kernel
theorem dX7_season_174 : decode cX7_season 174 = .ok (.iconst 1, 1) := by decide +kernel
theorem dX7_season_175 : decode cX7_season 175 = .ok (.iadd, 1) := by decide +kernel
theorem dX7_season_176 : decode cX7_season 176 = .ok (.iastore, 1) := by decide +kernel
theorem dX7_season_177 : decode cX7_season 177 = .ok (.iload_n 1, 1) := by decide +kernel
theorem dX7_season_178 : decode cX7_season 178 = .ok (.ireturn, 1) := by decide +kernel
set_option maxRecDepth 20000 in
theorem ggX7_value_X7_in : GoodIn wsX7_value wsX7_in := goodIn_r _ [6] (by decide +kernel) (by decide +kernel)
set_option maxRecDepth 20000 in
theorem gX7_value_X7_in : GoodIn wsX7_value (va_wsS RX7 47 yX7_in wsX7_in) := goodIn_app (goodIn_of _ (by decide +kernel)) ggX7_value_X7_in
set_option maxRecDepth 20000 in
theorem ggX7_value_X7_goes : GoodIn wsX7_value wsX7_goes := goodIn_r _ [10, 11, 12, 13, 14, 15, 16, 17, 18, 19, 20, 21, 22, 23, 24] (by decide +kernel) (by decide +kernel)
set_option maxRecDepth 20000 in
theorem gX7_value_X7_goes : GoodIn wsX7_value (wsV RX7 66 RX7 yX7_goes wsX7_goes) := goodIn_app (goodIn_of _ (by decide +kernel)) ggX7_value_X7_goes
theorem dX7_value_0 : decode cX7_value 0 = .ok (.aload_n 0, 1) := by decide +kernel
theorem dX7_value_1 : decode cX7_value 1 = .ok (.iload_n 1, 1) := by decide +kernel
theorem dX7_value_2 : decode cX7_value 2 = .ok (.i2l, 1) := by decide +kernel
theorem dX7_value_3 : decode cX7_value 3 = .ok (.lconst 0, 1) := by decide +kernel
theorem dX7_value_4 : decode cX7_value 4 = .ok (.ldc2_w 89, 3) := by decide +kernel
theorem dX7_value_7 : decode cX7_value 7 = .ok (.invokestatic 47, 3) := by decide +kernel
theorem dX7_value_10 : decode cX7_value 10 = .ok (.iconst 1, 1) := by decide +kernel
theorem dX7_value_11 : decode cX7_value 11 = .ok (.invokevirtual 66, 3) := by decide +kernel
theorem dX7_value_14 : decode cX7_value 14 = .ok (.ifCond .eq 12, 3) := by decide +kernel
theorem dX7_value_17 : decode cX7_value 17 = .ok (.aload_n 0, 1) := by decide +kernel
theorem dX7_value_18 : decode cX7_value 18 = .ok (.getfield 7, 3) := by decide +kernel
theorem dX7_value_21 : decode cX7_value 21 = .ok (.iload_n 1, 1) := by decide +kernel
theorem dX7_value_22 : decode cX7_value 22 = .ok (.iaload, 1) := by decide +kernel
theorem dX7_value_23 : decode cX7_value 23 = .ok (.goto 4, 3) := by decide +kernel
theorem dX7_value_26 : decode cX7_value 26 = .ok (.iconst 0, 1) := by decide +kernel
theorem dX7_value_27 : decode cX7_value 27 = .ok (.ireturn, 1) := by decide +kernel
set_option maxRecDepth 20000 in
theorem ggX7_cellValue_X7_isInShadow : GoodIn wsX7_cellValue wsX7_isInShadow := goodIn_r _ [5, 6, 7, 8, 9, 4, 10, 11, 12, 13, 14, 15, 16, 17, 18, 19, 20, 21, 22, 23, 24, 25, 26, 27, 28, 29, 30, 31, 32, 33, 34] (by decide +kernel) (by decide +kernel)
set_option maxRecDepth 20000 in
theorem gX7_cellValue_X7_isInShadow : GoodIn wsX7_cellValue (wsV RX7 127 RX7 yX7_isInShadow wsX7_isInShadow) := goodIn_app (goodIn_of _ (by decide +kernel)) ggX7_cellValue_X7_isInShadow
set_option maxRecDepth 20000 in
theorem ggX7_cellValue_X7_of : GoodIn wsX7_cellValue wsX7_of := goodIn_r _ [18, 6, 19, 20, 4, 21, 22, 23, 24, 25, 26, 27, 28, 29, 30, 31, 32, 33, 34] (by decide +kernel) (by decide +kernel)
set_option maxRecDepth 20000 in
theorem gX7_cellValue_X7_of : GoodIn wsX7_cellValue (wsV RX7 79 RX7 yX7_of wsX7_of) := goodIn_app (goodIn_of _ (by decide +kernel)) ggX7_cellValue_X7_of
theorem dX7_cellValue_0 : decode cX7_cellValue 0 = .ok (.iload_n 2, 1) := by decide +kernel
theorem dX7_cellValue_1 : decode cX7_cellValue 1 = .ok (.lookupswitch 55 #[(4, 27), (5, 41)], 27) := by decide +kernel
theorem dX7_cellValue_28 : decode cX7_cellValue 28 = .ok (.aload_n 0, 1) := by decide +kernel
theorem dX7_cellValue_29 : decode cX7_cellValue 29 = .ok (.iload_n 1, 1) := by decide +kernel
theorem dX7_cellValue_30 : decode cX7_cellValue 30 = .ok (.invokevirtual 127, 3) := by decide +kernel
theorem dX7_cellValue_33 : decode cX7_cellValue 33 = .ok (.ifCond .eq 7, 3) := by decide +kernel
theorem dX7_cellValue_36 : decode cX7_cellValue 36 = .ok (.iconst 1, 1) := by decide +kernel
theorem dX7_cellValue_37 : decode cX7_cellValue 37 = .ok (.goto 4, 3) := by decide +kernel
theorem dX7_cellValue_40 : decode cX7_cellValue 40 = .ok (.iconst 0, 1) := by decide +kernel
theorem dX7_cellValue_41 : decode cX7_cellValue 41 = .ok (.ireturn, 1) := by decide +kernel
theorem dX7_cellValue_42 : decode cX7_cellValue 42 = .ok (.aload_n 0, 1) := by decide +kernel
theorem dX7_cellValue_43 : decode cX7_cellValue 43 = .ok (.iload_n 1, 1) := by decide +kernel
theorem dX7_cellValue_44 : decode cX7_cellValue 44 = .ok (.iconst 0, 1) := by decide +kernel
theorem dX7_cellValue_45 : decode cX7_cellValue 45 = .ok (.invokevirtual 79, 3) := by decide +kernel
theorem dX7_cellValue_48 : decode cX7_cellValue 48 = .ok (.aload_n 0, 1) := by decide +kernel
theorem dX7_cellValue_49 : decode cX7_cellValue 49 = .ok (.iload_n 1, 1) := by decide +kernel
theorem dX7_cellValue_50 : decode cX7_cellValue 50 = .ok (.iconst 4, 1) := by decide +kernel
theorem dX7_cellValue_51 : decode cX7_cellValue 51 = .ok (.invokevirtual 79, 3) := by decide +kernel
theorem dX7_cellValue_54 : decode cX7_cellValue 54 = .ok (.isub, 1) := by decide +kernel
theorem dX7_cellValue_55 : decode cX7_cellValue 55 = .ok (.ireturn, 1) := by decide +kernel
theorem dX7_cellValue_56 : decode cX7_cellValue 56 = .ok (.aload_n 0, 1) := by decide +kernel
theorem dX7_cellValue_57 : decode cX7_cellValue 57 = .ok (.iload_n 1, 1) := by decide +kernel
theorem dX7_cellValue_58 : decode cX7_cellValue 58 = .ok (.iload_n 2, 1) := by decide +kernel
theorem dX7_cellValue_59 : decode cX7_cellValue 59 = .ok (.invokevirtual 79, 3) := by decide +kernel
theorem dX7_cellValue_62 : decode cX7_cellValue 62 = .ok (.ireturn, 1) := by decide +kernel
set_option maxRecDepth 20000 in
theorem ggX7_cell_X7_isCell : GoodIn wsX7_cell wsX7_isCell := goodIn_r _ [6, 7, 8, 9, 5, 10, 11, 12, 13, 14, 43, 44, 45, 46, 47, 48, 49, 50, 51, 52, 53, 54, 55] (by decide +kernel) (by decide +kernel)
set_option maxRecDepth 20000 in
theorem gX7_cell_X7_isCell : GoodIn wsX7_cell (wsV RX7 73 RX7 yX7_isCell wsX7_isCell) := goodIn_app (goodIn_of _ (by decide +kernel)) ggX7_cell_X7_isCell
set_option maxRecDepth 20000 in
theorem ggX7_cell_X7_in : GoodIn wsX7_cell wsX7_in := goodIn_r _ [14] (by decide +kernel) (by decide +kernel)
set_option maxRecDepth 20000 in
theorem gX7_cell_X7_in : GoodIn wsX7_cell (va_wsS RX7 47 yX7_in wsX7_in) := goodIn_app (goodIn_of _ (by decide +kernel)) ggX7_cell_X7_in
set_option maxRecDepth 20000 in
theorem ggX7_cell_X7_goes : GoodIn wsX7_cell wsX7_goes := goodIn_r _ [18, 19, 43, 44, 45, 46, 47, 48, 49, 50, 51, 52, 53, 54, 55] (by decide +kernel) (by decide +kernel)
set_option maxRecDepth 20000 in
theorem gX7_cell_X7_goes : GoodIn wsX7_cell (wsV RX7 66 RX7 yX7_goes wsX7_goes) := goodIn_app (goodIn_of _ (by decide +kernel)) ggX7_cell_X7_goes
set_option maxRecDepth 20000 in
theorem ggX7_cell_X7_cellValue : GoodIn wsX7_cell wsX7_cellValue := goodIn_r _ [23, 24, 25, 26, 5, 27, 11, 28, 29, 30, 31, 32, 33, 34, 35, 36, 37, 38, 39, 40, 41, 42, 43, 44, 45, 46, 47, 48, 49, 50, 51, 52, 53, 54, 55] (by decide +kernel) (by decide +kernel)
set_option maxRecDepth 20000 in
theorem gX7_cell_X7_cellValue : GoodIn wsX7_cell (wsV RX7 170 RX7 yX7_cellValue wsX7_cellValue) := goodIn_app (goodIn_of _ (by decide +kernel)) ggX7_cell_X7_cellValue
theorem dX7_cell_0 : decode cX7_cell 0 = .ok (.aload_n 0, 1) := by decide +kernel
theorem dX7_cell_1 : decode cX7_cell 1 = .ok (.aload_n 0, 1) := by decide +kernel
theorem dX7_cell_2 : decode cX7_cell 2 = .ok (.iload_n 1, 1) := by decide +kernel
theorem dX7_cell_3 : decode cX7_cell 3 = .ok (.invokevirtual 73, 3) := by decide +kernel
theorem dX7_cell_6 : decode cX7_cell 6 = .ok (.iload_n 2, 1) := by decide +kernel
theorem dX7_cell_7 : decode cX7_cell 7 = .ok (.i2l, 1) := by decide +kernel
theorem dX7_cell_8 : decode cX7_cell 8 = .ok (.lconst 0, 1) := by decide +kernel
theorem dX7_cell_9 : decode cX7_cell 9 = .ok (.ldc2_w 91, 3) := by decide +kernel
theorem dX7_cell_12 : decode cX7_cell 12 = .ok (.invokestatic 47, 3) := by decide +kernel
theorem dX7_cell_15 : decode cX7_cell 15 = .ok (.invokevirtual 66, 3) := by decide +kernel
theorem dX7_cell_18 : decode cX7_cell 18 = .ok (.ifCond .eq 12, 3) := by decide +kernel
theorem dX7_cell_21 : decode cX7_cell 21 = .ok (.aload_n 0, 1) := by decide +kernel
theorem dX7_cell_22 : decode cX7_cell 22 = .ok (.iload_n 1, 1) := by decide +kernel
theorem dX7_cell_23 : decode cX7_cell 23 = .ok (.iload_n 2, 1) := by decide +kernel
theorem dX7_cell_24 : decode cX7_cell 24 = .ok (.invokevirtual 170, 3) := by decide +kernel
theorem dX7_cell_27 : decode cX7_cell 27 = .ok (.goto 4, 3) := by decide +kernel
theorem dX7_cell_30 : decode cX7_cell 30 = .ok (.iconst 0, 1) := by decide +kernel
theorem dX7_cell_31 : decode cX7_cell 31 = .ok (.ireturn, 1) := by decide +kernel
set_option maxRecDepth 20000 in
theorem ggX7_count_X7_in : GoodIn wsX7_count wsX7_in := goodIn_r _ [6] (by decide +kernel) (by decide +kernel)
set_option maxRecDepth 20000 in
theorem gX7_count_X7_in : GoodIn wsX7_count (va_wsS RX7 47 yX7_in wsX7_in) := goodIn_app (goodIn_of _ (by decide +kernel)) ggX7_count_X7_in
set_option maxRecDepth 20000 in
theorem ggX7_count_X7_goes : GoodIn wsX7_count wsX7_goes := goodIn_r _ [10, 11, 12, 13, 14, 15, 16, 17, 18, 19, 20, 21, 22, 23, 24] (by decide +kernel) (by decide +kernel)
set_option maxRecDepth 20000 in
theorem gX7_count_X7_goes : GoodIn wsX7_count (wsV RX7 66 RX7 yX7_goes wsX7_goes) := goodIn_app (goodIn_of _ (by decide +kernel)) ggX7_count_X7_goes
theorem dX7_count_0 : decode cX7_count 0 = .ok (.aload_n 0, 1) := by decide +kernel
theorem dX7_count_1 : decode cX7_count 1 = .ok (.iload_n 1, 1) := by decide +kernel
theorem dX7_count_2 : decode cX7_count 2 = .ok (.i2l, 1) := by decide +kernel
theorem dX7_count_3 : decode cX7_count 3 = .ok (.lconst 0, 1) := by decide +kernel
theorem dX7_count_4 : decode cX7_count 4 = .ok (.ldc2_w 173, 3) := by decide +kernel
theorem dX7_count_7 : decode cX7_count 7 = .ok (.invokestatic 47, 3) := by decide +kernel
theorem dX7_count_10 : decode cX7_count 10 = .ok (.iconst 1, 1) := by decide +kernel
theorem dX7_count_11 : decode cX7_count 11 = .ok (.invokevirtual 66, 3) := by decide +kernel
theorem dX7_count_14 : decode cX7_count 14 = .ok (.ifCond .eq 15, 3) := by decide +kernel
theorem dX7_count_17 : decode cX7_count 17 = .ok (.aload_n 0, 1) := by decide +kernel
theorem dX7_count_18 : decode cX7_count 18 = .ok (.getfield 7, 3) := by decide +kernel
theorem dX7_count_21 : decode cX7_count 21 = .ok (.bipush 9, 2) := by decide +kernel
theorem dX7_count_23 : decode cX7_count 23 = .ok (.iload_n 1, 1) := by decide +kernel
theorem dX7_count_24 : decode cX7_count 24 = .ok (.iadd, 1) := by decide +kernel
theorem dX7_count_25 : decode cX7_count 25 = .ok (.iaload, 1) := by decide +kernel
theorem dX7_count_26 : decode cX7_count 26 = .ok (.goto 4, 3) := by decide +kernel
theorem dX7_count_29 : decode cX7_count 29 = .ok (.iconst 0, 1) := by decide +kernel
theorem dX7_count_30 : decode cX7_count 30 = .ok (.ireturn, 1) := by decide +kernel
set_option maxRecDepth 20000 in
theorem ggX7_latest_X7_in : GoodIn wsX7_latest wsX7_in := goodIn_r _ [6] (by decide +kernel) (by decide +kernel)
set_option maxRecDepth 20000 in
theorem gX7_latest_X7_in : GoodIn wsX7_latest (va_wsS RX7 47 yX7_in wsX7_in) := goodIn_app (goodIn_of _ (by decide +kernel)) ggX7_latest_X7_in
set_option maxRecDepth 20000 in
theorem ggX7_latest_X7_goes : GoodIn wsX7_latest wsX7_goes := goodIn_r _ [10, 11, 12, 13, 14, 15, 16, 17, 18, 19, 20, 21, 22, 23, 24] (by decide +kernel) (by decide +kernel)
set_option maxRecDepth 20000 in
theorem gX7_latest_X7_goes : GoodIn wsX7_latest (wsV RX7 66 RX7 yX7_goes wsX7_goes) := goodIn_app (goodIn_of _ (by decide +kernel)) ggX7_latest_X7_goes
theorem dX7_latest_0 : decode cX7_latest 0 = .ok (.aload_n 0, 1) := by decide +kernel
theorem dX7_latest_1 : decode cX7_latest 1 = .ok (.iload_n 1, 1) := by decide +kernel
theorem dX7_latest_2 : decode cX7_latest 2 = .ok (.i2l, 1) := by decide +kernel
theorem dX7_latest_3 : decode cX7_latest 3 = .ok (.lconst 0, 1) := by decide +kernel
theorem dX7_latest_4 : decode cX7_latest 4 = .ok (.ldc2_w 58, 3) := by decide +kernel
theorem dX7_latest_7 : decode cX7_latest 7 = .ok (.invokestatic 47, 3) := by decide +kernel
theorem dX7_latest_10 : decode cX7_latest 10 = .ok (.iconst 1, 1) := by decide +kernel
theorem dX7_latest_11 : decode cX7_latest 11 = .ok (.invokevirtual 66, 3) := by decide +kernel
theorem dX7_latest_14 : decode cX7_latest 14 = .ok (.ifCond .eq 15, 3) := by decide +kernel
theorem dX7_latest_17 : decode cX7_latest 17 = .ok (.aload_n 0, 1) := by decide +kernel
theorem dX7_latest_18 : decode cX7_latest 18 = .ok (.getfield 7, 3) := by decide +kernel
theorem dX7_latest_21 : decode cX7_latest 21 = .ok (.bipush 21, 2) := by decide +kernel
theorem dX7_latest_23 : decode cX7_latest 23 = .ok (.iload_n 1, 1) := by decide +kernel
theorem dX7_latest_24 : decode cX7_latest 24 = .ok (.iadd, 1) := by decide +kernel
theorem dX7_latest_25 : decode cX7_latest 25 = .ok (.iaload, 1) := by decide +kernel
theorem dX7_latest_26 : decode cX7_latest 26 = .ok (.goto 4, 3) := by decide +kernel
theorem dX7_latest_29 : decode cX7_latest 29 = .ok (.iconst 0, 1) := by decide +kernel
theorem dX7_latest_30 : decode cX7_latest 30 = .ok (.ireturn, 1) := by decide +kernel
set_option maxRecDepth 20000 in
theorem ggX7_slabs_X7_cells : GoodIn wsX7_slabs wsX7_cells := goodIn_r _ [6, 7, 15, 16, 17, 18, 19, 20, 21, 22, 23, 24, 25, 26, 27] (by decide +kernel) (by decide +kernel)
set_option maxRecDepth 20000 in
theorem gX7_slabs_X7_cells : GoodIn wsX7_slabs (wsV RX7 43 RX7 yX7_cells wsX7_cells) := goodIn_app (goodIn_of _ (by decide +kernel)) ggX7_slabs_X7_cells
set_option maxRecDepth 20000 in
theorem ggX7_slabs_X7_of : GoodIn wsX7_slabs wsX7_of := goodIn_r _ [11, 7, 12, 13, 5, 14, 15, 16, 17, 18, 19, 20, 21, 22, 23, 24, 25, 26, 27] (by decide +kernel) (by decide +kernel)
set_option maxRecDepth 20000 in
theorem gX7_slabs_X7_of : GoodIn wsX7_slabs (wsV RX7 79 RX7 yX7_of wsX7_of) := goodIn_app (goodIn_of _ (by decide +kernel)) ggX7_slabs_X7_of
theorem dX7_slabs_0 : decode cX7_slabs 0 = .ok (.aload_n 0, 1) := by decide +kernel
theorem dX7_slabs_1 : decode cX7_slabs 1 = .ok (.iconst 0, 1) := by decide +kernel
theorem dX7_slabs_2 : decode cX7_slabs 2 = .ok (.putfield 32, 3) := by decide +kernel
theorem dX7_slabs_5 : decode cX7_slabs 5 = .ok (.iconst 0, 1) := by decide +kernel
theorem dX7_slabs_6 : decode cX7_slabs 6 = .ok (.istore_n 1, 1) := by decide +kernel
theorem dX7_slabs_7 : decode cX7_slabs 7 = .ok (.iconst 0, 1) := by decide +kernel
theorem dX7_slabs_8 : decode cX7_slabs 8 = .ok (.istore_n 2, 1) := by decide +kernel
theorem dX7_slabs_9 : decode cX7_slabs 9 = .ok (.iload_n 2, 1) := by decide +kernel
theorem dX7_slabs_10 : decode cX7_slabs 10 = .ok (.aload_n 0, 1) := by decide +kernel
theorem dX7_slabs_11 : decode cX7_slabs 11 = .ok (.invokevirtual 43, 3) := by decide +kernel
theorem dX7_slabs_14 : decode cX7_slabs 14 = .ok (.if_icmp .ge 18, 3) := by decide +kernel
theorem dX7_slabs_17 : decode cX7_slabs 17 = .ok (.iload_n 1, 1) := by decide +kernel
theorem dX7_slabs_18 : decode cX7_slabs 18 = .ok (.aload_n 0, 1) := by decide +kernel
theorem dX7_slabs_19 : decode cX7_slabs 19 = .ok (.iload_n 2, 1) := by decide +kernel
theorem dX7_slabs_20 : decode cX7_slabs 20 = .ok (.iconst 0, 1) := by decide +kernel
theorem dX7_slabs_21 : decode cX7_slabs 21 = .ok (.invokevirtual 79, 3) := by decide +kernel
theorem dX7_slabs_24 : decode cX7_slabs 24 = .ok (.iadd, 1) := by decide +kernel
theorem dX7_slabs_25 : decode cX7_slabs 25 = .ok (.istore_n 1, 1) := by decide +kernel
theorem dX7_slabs_26 : decode cX7_slabs 26 = .ok (.iinc 2 1, 3) := by decide +kernel
theorem dX7_slabs_29 : decode cX7_slabs 29 = .ok (.goto (-20), 3) := by decide +kernel
theorem dX7_slabs_32 : decode cX7_slabs 32 = .ok (.iload_n 1, 1) := by decide +kernel
theorem dX7_slabs_33 : decode cX7_slabs 33 = .ok (.ireturn, 1) := by decide +kernel
set_option maxRecDepth 20000 in
theorem ggX7_reliefOf_X7_cells : GoodIn wsX7_reliefOf wsX7_cells := goodIn_r _ [5, 6, 22, 23, 24, 25, 26, 27, 28, 29, 30, 31, 32, 33, 34] (by decide +kernel) (by decide +kernel)
set_option maxRecDepth 20000 in
theorem gX7_reliefOf_X7_cells : GoodIn wsX7_reliefOf (wsV RX7 43 RX7 yX7_cells wsX7_cells) := goodIn_app (goodIn_of _ (by decide +kernel)) ggX7_reliefOf_X7_cells
set_option maxRecDepth 20000 in
theorem ggX7_reliefOf_X7_of : GoodIn wsX7_reliefOf wsX7_of := goodIn_r _ [10, 6, 11, 12, 4, 13, 22, 23, 24, 25, 26, 27, 28, 29, 30, 31, 32, 33, 34] (by decide +kernel) (by decide +kernel)
set_option maxRecDepth 20000 in
theorem gX7_reliefOf_X7_of : GoodIn wsX7_reliefOf (wsV RX7 79 RX7 yX7_of wsX7_of) := goodIn_app (goodIn_of _ (by decide +kernel)) ggX7_reliefOf_X7_of
set_option maxRecDepth 20000 in
theorem ggX7_reliefOf_X7_neighbor : GoodIn wsX7_reliefOf wsX7_neighbor := goodIn_r _ [17, 18, 19, 20, 4, 21, 6, 22, 23, 24, 25, 26, 27, 28, 29, 30, 31, 32, 33, 34] (by decide +kernel) (by decide +kernel)
set_option maxRecDepth 20000 in
theorem gX7_reliefOf_X7_neighbor : GoodIn wsX7_reliefOf (wsV RX7 118 RX7 yX7_neighbor wsX7_neighbor) := goodIn_app (goodIn_of _ (by decide +kernel)) ggX7_reliefOf_X7_neighbor
theorem dX7_reliefOf_0 : decode cX7_reliefOf 0 = .ok (.iconst 0, 1) := by decide +kernel
theorem dX7_reliefOf_1 : decode cX7_reliefOf 1 = .ok (.istore_n 2, 1) := by decide +kernel
theorem dX7_reliefOf_2 : decode cX7_reliefOf 2 = .ok (.iconst 0, 1) := by decide +kernel
theorem dX7_reliefOf_3 : decode cX7_reliefOf 3 = .ok (.istore_n 3, 1) := by decide +kernel
theorem dX7_reliefOf_4 : decode cX7_reliefOf 4 = .ok (.iconst 0, 1) := by decide +kernel
theorem dX7_reliefOf_5 : decode cX7_reliefOf 5 = .ok (.istore 4, 2) := by decide +kernel
theorem dX7_reliefOf_7 : decode cX7_reliefOf 7 = .ok (.iconst 0, 1) := by decide +kernel
theorem dX7_reliefOf_8 : decode cX7_reliefOf 8 = .ok (.istore 5, 2) := by decide +kernel
theorem dX7_reliefOf_10 : decode cX7_reliefOf 10 = .ok (.iload 5, 2) := by decide +kernel
theorem dX7_reliefOf_12 : decode cX7_reliefOf 12 = .ok (.aload_n 0, 1) := by decide +kernel
theorem dX7_reliefOf_13 : decode cX7_reliefOf 13 = .ok (.invokevirtual 43, 3) := by decide +kernel
theorem dX7_reliefOf_16 : decode cX7_reliefOf 16 = .ok (.if_icmp .ge 103, 3) := by decide +kernel
theorem dX7_reliefOf_19 : decode cX7_reliefOf 19 = .ok (.aload_n 0, 1) := by decide +kernel
theorem dX7_reliefOf_20 : decode cX7_reliefOf 20 = .ok (.iload 5, 2) := by decide +kernel
theorem dX7_reliefOf_22 : decode cX7_reliefOf 22 = .ok (.iconst 0, 1) := by decide +kernel
theorem dX7_reliefOf_23 : decode cX7_reliefOf 23 = .ok (.invokevirtual 79, 3) := by decide +kernel
theorem dX7_reliefOf_26 : decode cX7_reliefOf 26 = .ok (.aload_n 0, 1) := by decide +kernel
theorem dX7_reliefOf_27 : decode cX7_reliefOf 27 = .ok (.iload_n 2, 1) := by decide +kernel
theorem dX7_reliefOf_28 : decode cX7_reliefOf 28 = .ok (.iconst 0, 1) := by decide +kernel
theorem dX7_reliefOf_29 : decode cX7_reliefOf 29 = .ok (.invokevirtual 79, 3) := by decide +kernel
theorem dX7_reliefOf_32 : decode cX7_reliefOf 32 = .ok (.if_icmp .le 8, 3) := by decide +kernel
theorem dX7_reliefOf_35 : decode cX7_reliefOf 35 = .ok (.iload 5, 2) := by decide +kernel
theorem dX7_reliefOf_37 : decode cX7_reliefOf 37 = .ok (.goto 4, 3) := by decide +kernel
theorem dX7_reliefOf_40 : decode cX7_reliefOf 40 = .ok (.iload_n 2, 1) := by decide +kernel
theorem dX7_reliefOf_41 : decode cX7_reliefOf 41 = .ok (.istore_n 2, 1) := by decide +kernel
theorem dX7_reliefOf_42 : decode cX7_reliefOf 42 = .ok (.iload 4, 2) := by decide +kernel
theorem dX7_reliefOf_44 : decode cX7_reliefOf 44 = .ok (.aload_n 0, 1) := by decide +kernel
theorem dX7_reliefOf_45 : decode cX7_reliefOf 45 = .ok (.iload 5, 2) := by decide +kernel
theorem dX7_reliefOf_47 : decode cX7_reliefOf 47 = .ok (.iconst 0, 1) := by decide +kernel
theorem dX7_reliefOf_48 : decode cX7_reliefOf 48 = .ok (.invokevirtual 79, 3) := by decide +kernel
theorem dX7_reliefOf_51 : decode cX7_reliefOf 51 = .ok (.ifCond .ne 7, 3) := by decide +kernel
theorem dX7_reliefOf_54 : decode cX7_reliefOf 54 = .ok (.iconst 1, 1) := by decide +kernel
theorem dX7_reliefOf_55 : decode cX7_reliefOf 55 = .ok (.goto 4, 3) := by decide +kernel
theorem dX7_reliefOf_58 : decode cX7_reliefOf 58 = .ok (.iconst 0, 1) := by decide +kernel
theorem dX7_reliefOf_59 : decode cX7_reliefOf 59 = .ok (.iadd, 1) := by decide +kernel
theorem dX7_reliefOf_60 : decode cX7_reliefOf 60 = .ok (.istore 4, 2) := by decide +kernel
theorem dX7_reliefOf_62 : decode cX7_reliefOf 62 = .ok (.iconst 0, 1) := by decide +kernel
theorem dX7_reliefOf_63 : decode cX7_reliefOf 63 = .ok (.istore 6, 2) := by decide +kernel
theorem dX7_reliefOf_65 : decode cX7_reliefOf 65 = .ok (.iload 6, 2) := by decide +kernel
theorem dX7_reliefOf_67 : decode cX7_reliefOf 67 = .ok (.iconst 4, 1) := by decide +kernel
theorem dX7_reliefOf_68 : decode cX7_reliefOf 68 = .ok (.if_icmp .ge 45, 3) := by decide +kernel
theorem dX7_reliefOf_71 : decode cX7_reliefOf 71 = .ok (.aload_n 0, 1) := by decide +kernel
theorem dX7_reliefOf_72 : decode cX7_reliefOf 72 = .ok (.iload 5, 2) := by decide +kernel
theorem dX7_reliefOf_74 : decode cX7_reliefOf 74 = .ok (.iconst 0, 1) := by decide +kernel
theorem dX7_reliefOf_75 : decode cX7_reliefOf 75 = .ok (.invokevirtual 79, 3) := by decide +kernel
theorem dX7_reliefOf_78 : decode cX7_reliefOf 78 = .ok (.aload_n 0, 1) := by decide +kernel
theorem dX7_reliefOf_79 : decode cX7_reliefOf 79 = .ok (.aload_n 0, 1) := by decide +kernel
theorem dX7_reliefOf_80 : decode cX7_reliefOf 80 = .ok (.iload 5, 2) := by decide +kernel
theorem dX7_reliefOf_82 : decode cX7_reliefOf 82 = .ok (.iload 6, 2) := by decide +kernel
theorem dX7_reliefOf_84 : decode cX7_reliefOf 84 = .ok (.invokevirtual 118, 3) := by decide +kernel
theorem dX7_reliefOf_87 : decode cX7_reliefOf 87 = .ok (.iconst 0, 1) := by decide +kernel
theorem dX7_reliefOf_88 : decode cX7_reliefOf 88 = .ok (.invokevirtual 79, 3) := by decide +kernel
theorem dX7_reliefOf_91 : decode cX7_reliefOf 91 = .ok (.isub, 1) := by decide +kernel
theorem dX7_reliefOf_92 : decode cX7_reliefOf 92 = .ok (.istore 7, 2) := by decide +kernel
theorem dX7_reliefOf_94 : decode cX7_reliefOf 94 = .ok (.iload 7, 2) := by decide +kernel
theorem dX7_reliefOf_96 : decode cX7_reliefOf 96 = .ok (.iload_n 3, 1) := by decide +kernel
theorem dX7_reliefOf_97 : decode cX7_reliefOf 97 = .ok (.if_icmp .le 8, 3) := by decide +kernel
theorem dX7_reliefOf_100 : decode cX7_reliefOf 100 = .ok (.iload 7, 2) := by decide +kernel
theorem dX7_reliefOf_102 : decode cX7_reliefOf 102 = .ok (.goto 4, 3) := by decide +kernel
theorem dX7_reliefOf_105 : decode cX7_reliefOf 105 = .ok (.iload_n 3, 1) := by decide +kernel
theorem dX7_reliefOf_106 : decode cX7_reliefOf 106 = .ok (.istore_n 3, 1) := by decide +kernel
theorem dX7_reliefOf_107 : decode cX7_reliefOf 107 = .ok (.iinc 6 1, 3) := by decide +kernel
theorem dX7_reliefOf_110 : decode cX7_reliefOf 110 = .ok (.goto (-45), 3) := by decide +kernel
theorem dX7_reliefOf_113 : decode cX7_reliefOf 113 = .ok (.iinc 5 1, 3) := by decide +kernel
theorem dX7_reliefOf_116 : decode cX7_reliefOf 116 = .ok (.goto (-106), 3) := by decide +kernel
theorem dX7_reliefOf_119 : decode cX7_reliefOf 119 = .ok (.iload_n 1, 1) := by decide +kernel
theorem dX7_reliefOf_120 : decode cX7_reliefOf 120 = .ok (.ifCond .ne 12, 3) := by decide +kernel
theorem dX7_reliefOf_123 : decode cX7_reliefOf 123 = .ok (.aload_n 0, 1) := by decide +kernel
theorem dX7_reliefOf_124 : decode cX7_reliefOf 124 = .ok (.iload_n 2, 1) := by decide +kernel
theorem dX7_reliefOf_125 : decode cX7_reliefOf 125 = .ok (.iconst 0, 1) := by decide +kernel
theorem dX7_reliefOf_126 : decode cX7_reliefOf 126 = .ok (.invokevirtual 79, 3) := by decide +kernel
theorem dX7_reliefOf_129 : decode cX7_reliefOf 129 = .ok (.goto 23, 3) := by decide +kernel
theorem dX7_reliefOf_132 : decode cX7_reliefOf 132 = .ok (.iload_n 1, 1) := by decide +kernel
theorem dX7_reliefOf_133 : decode cX7_reliefOf 133 = .ok (.iconst 1, 1) := by decide +kernel
theorem dX7_reliefOf_134 : decode cX7_reliefOf 134 = .ok (.if_icmp .ne 7, 3) := by decide +kernel
theorem dX7_reliefOf_137 : decode cX7_reliefOf 137 = .ok (.iload_n 2, 1) := by decide +kernel
theorem dX7_reliefOf_138 : decode cX7_reliefOf 138 = .ok (.goto 14, 3) := by decide +kernel
theorem dX7_reliefOf_141 : decode cX7_reliefOf 141 = .ok (.iload_n 1, 1) := by decide +kernel
theorem dX7_reliefOf_142 : decode cX7_reliefOf 142 = .ok (.iconst 2, 1) := by decide +kernel
theorem dX7_reliefOf_143 : decode cX7_reliefOf 143 = .ok (.if_icmp .ne 7, 3) := by decide +kernel
theorem dX7_reliefOf_146 : decode cX7_reliefOf 146 = .ok (.iload_n 3, 1) := by decide +kernel
theorem dX7_reliefOf_147 : decode cX7_reliefOf 147 = .ok (.goto 5, 3) := by decide +kernel
theorem dX7_reliefOf_150 : decode cX7_reliefOf 150 = .ok (.iload 4, 2) := by decide +kernel
theorem dX7_reliefOf_152 : decode cX7_reliefOf 152 = .ok (.ireturn, 1) := by decide +kernel
set_option maxRecDepth 20000 in
theorem ggX7_relief_X7_in : GoodIn wsX7_relief wsX7_in := goodIn_r _ [5] (by decide +kernel) (by decide +kernel)
set_option maxRecDepth 20000 in
theorem gX7_relief_X7_in : GoodIn wsX7_relief (va_wsS RX7 47 yX7_in wsX7_in) := goodIn_app (goodIn_of _ (by decide +kernel)) ggX7_relief_X7_in
set_option maxRecDepth 20000 in
theorem ggX7_relief_X7_goes : GoodIn wsX7_relief wsX7_goes := goodIn_r _ [9, 10, 35, 36, 37, 38, 39, 40, 41, 42, 43, 44, 45, 46, 47] (by decide +kernel) (by decide +kernel)
set_option maxRecDepth 20000 in
theorem gX7_relief_X7_goes : GoodIn wsX7_relief (wsV RX7 66 RX7 yX7_goes wsX7_goes) := goodIn_app (goodIn_of _ (by decide +kernel)) ggX7_relief_X7_goes
set_option maxRecDepth 20000 in
theorem ggX7_relief_X7_reliefOf : GoodIn wsX7_relief wsX7_reliefOf := goodIn_r _ [14, 15, 16, 17, 4, 18, 19, 20, 21, 22, 23, 24, 25, 26, 27, 28, 29, 30, 31, 32, 33, 34, 35, 36, 37, 38, 39, 40, 41, 42, 43, 44, 45, 46, 47] (by decide +kernel) (by decide +kernel)
set_option maxRecDepth 20000 in
theorem gX7_relief_X7_reliefOf : GoodIn wsX7_relief (wsV RX7 175 RX7 yX7_reliefOf wsX7_reliefOf) := goodIn_app (goodIn_of _ (by decide +kernel)) ggX7_relief_X7_reliefOf
theorem dX7_relief_0 : decode cX7_relief 0 = .ok (.aload_n 0, 1) := by decide +kernel
theorem dX7_relief_1 : decode cX7_relief 1 = .ok (.iload_n 1, 1) := by decide +kernel
theorem dX7_relief_2 : decode cX7_relief 2 = .ok (.i2l, 1) := by decide +kernel
theorem dX7_relief_3 : decode cX7_relief 3 = .ok (.lconst 0, 1) := by decide +kernel
theorem dX7_relief_4 : decode cX7_relief 4 = .ok (.ldc2_w 58, 3) := by decide +kernel
theorem dX7_relief_7 : decode cX7_relief 7 = .ok (.invokestatic 47, 3) := by decide +kernel
theorem dX7_relief_10 : decode cX7_relief 10 = .ok (.iconst 1, 1) := by decide +kernel
theorem dX7_relief_11 : decode cX7_relief 11 = .ok (.invokevirtual 66, 3) := by decide +kernel
theorem dX7_relief_14 : decode cX7_relief 14 = .ok (.ifCond .eq 11, 3) := by decide +kernel
theorem dX7_relief_17 : decode cX7_relief 17 = .ok (.aload_n 0, 1) := by decide +kernel
theorem dX7_relief_18 : decode cX7_relief 18 = .ok (.iload_n 1, 1) := by decide +kernel
theorem dX7_relief_19 : decode cX7_relief 19 = .ok (.invokevirtual 175, 3) := by decide +kernel
theorem dX7_relief_22 : decode cX7_relief 22 = .ok (.goto 4, 3) := by decide +kernel
theorem dX7_relief_25 : decode cX7_relief 25 = .ok (.iconst 0, 1) := by decide +kernel
theorem dX7_relief_26 : decode cX7_relief 26 = .ok (.ireturn, 1) := by decide +kernel
set_option maxRecDepth 20000 in
theorem ggX7_shadowHeight_X7_cells : GoodIn wsX7_shadowHeight wsX7_cells := goodIn_r _ [6, 7, 27, 28, 29, 30, 31, 32, 33, 34, 35, 36, 37, 38, 39] (by decide +kernel) (by decide +kernel)
set_option maxRecDepth 20000 in
theorem gX7_shadowHeight_X7_cells : GoodIn wsX7_shadowHeight (wsV RX7 43 RX7 yX7_cells wsX7_cells) := goodIn_app (goodIn_of _ (by decide +kernel)) ggX7_shadowHeight_X7_cells
set_option maxRecDepth 20000 in
theorem ggX7_shadowHeight_X7_isInShadow : GoodIn wsX7_shadowHeight wsX7_isInShadow := goodIn_r _ [11, 7, 12, 13, 14, 5, 15, 16, 17, 18, 19, 20, 21, 22, 23, 24, 25, 26, 27, 28, 29, 30, 31, 32, 33, 34, 35, 36, 37, 38, 39] (by decide +kernel) (by decide +kernel)
set_option maxRecDepth 20000 in
theorem gX7_shadowHeight_X7_isInShadow : GoodIn wsX7_shadowHeight (wsV RX7 127 RX7 yX7_isInShadow wsX7_isInShadow) := goodIn_app (goodIn_of _ (by decide +kernel)) ggX7_shadowHeight_X7_isInShadow
set_option maxRecDepth 20000 in
theorem ggX7_shadowHeight_X7_of : GoodIn wsX7_shadowHeight wsX7_of := goodIn_r _ [23, 7, 24, 25, 5, 26, 27, 28, 29, 30, 31, 32, 33, 34, 35, 36, 37, 38, 39] (by decide +kernel) (by decide +kernel)
set_option maxRecDepth 20000 in
theorem gX7_shadowHeight_X7_of : GoodIn wsX7_shadowHeight (wsV RX7 79 RX7 yX7_of wsX7_of) := goodIn_app (goodIn_of _ (by decide +kernel)) ggX7_shadowHeight_X7_of
theorem dX7_shadowHeight_0 : decode cX7_shadowHeight 0 = .ok (.aload_n 0, 1) := by decide +kernel
theorem dX7_shadowHeight_1 : decode cX7_shadowHeight 1 = .ok (.iconst 0, 1) := by decide +kernel
theorem dX7_shadowHeight_2 : decode cX7_shadowHeight 2 = .ok (.putfield 32, 3) := by decide +kernel
theorem dX7_shadowHeight_5 : decode cX7_shadowHeight 5 = .ok (.iconst 0, 1) := by decide +kernel
theorem dX7_shadowHeight_6 : decode cX7_shadowHeight 6 = .ok (.istore_n 1, 1) := by decide +kernel
theorem dX7_shadowHeight_7 : decode cX7_shadowHeight 7 = .ok (.iconst 0, 1) := by decide +kernel
theorem dX7_shadowHeight_8 : decode cX7_shadowHeight 8 = .ok (.istore_n 2, 1) := by decide +kernel
theorem dX7_shadowHeight_9 : decode cX7_shadowHeight 9 = .ok (.iconst 0, 1) := by decide +kernel
theorem dX7_shadowHeight_10 : decode cX7_shadowHeight 10 = .ok (.istore_n 3, 1) := by decide +kernel
theorem dX7_shadowHeight_11 : decode cX7_shadowHeight 11 = .ok (.iload_n 3, 1) := by decide +kernel
theorem dX7_shadowHeight_12 : decode cX7_shadowHeight 12 = .ok (.aload_n 0, 1) := by decide +kernel
theorem dX7_shadowHeight_13 : decode cX7_shadowHeight 13 = .ok (.invokevirtual 43, 3) := by decide +kernel
theorem dX7_shadowHeight_16 : decode cX7_shadowHeight 16 = .ok (.if_icmp .ge 47, 3) := by decide +kernel
theorem dX7_shadowHeight_19 : decode cX7_shadowHeight 19 = .ok (.aload_n 0, 1) := by decide +kernel
theorem dX7_shadowHeight_20 : decode cX7_shadowHeight 20 = .ok (.iload_n 3, 1) := by decide +kernel
theorem dX7_shadowHeight_21 : decode cX7_shadowHeight 21 = .ok (.invokevirtual 127, 3) := by decide +kernel
theorem dX7_shadowHeight_24 : decode cX7_shadowHeight 24 = .ok (.istore 4, 2) := by decide +kernel
theorem dX7_shadowHeight_26 : decode cX7_shadowHeight 26 = .ok (.iload_n 1, 1) := by decide +kernel
theorem dX7_shadowHeight_27 : decode cX7_shadowHeight 27 = .ok (.iload 4, 2) := by decide +kernel
theorem dX7_shadowHeight_29 : decode cX7_shadowHeight 29 = .ok (.ifCond .eq 12, 3) := by decide +kernel
theorem dX7_shadowHeight_32 : decode cX7_shadowHeight 32 = .ok (.aload_n 0, 1) := by decide +kernel
theorem dX7_shadowHeight_33 : decode cX7_shadowHeight 33 = .ok (.iload_n 3, 1) := by decide +kernel
theorem dX7_shadowHeight_34 : decode cX7_shadowHeight 34 = .ok (.iconst 0, 1) := by decide +kernel
theorem dX7_shadowHeight_35 : decode cX7_shadowHeight 35 = .ok (.invokevirtual 79, 3) := by decide +kernel
theorem dX7_shadowHeight_38 : decode cX7_shadowHeight 38 = .ok (.goto 4, 3) := by decide +kernel
theorem dX7_shadowHeight_41 : decode cX7_shadowHeight 41 = .ok (.iconst 0, 1) := by decide +kernel
theorem dX7_shadowHeight_42 : decode cX7_shadowHeight 42 = .ok (.iadd, 1) := by decide +kernel
theorem dX7_shadowHeight_43 : decode cX7_shadowHeight 43 = .ok (.istore_n 1, 1) := by decide +kernel
theorem dX7_shadowHeight_44 : decode cX7_shadowHeight 44 = .ok (.iload_n 2, 1) := by decide +kernel
theorem dX7_shadowHeight_45 : decode cX7_shadowHeight 45 = .ok (.iload 4, 2) := by decide +kernel
theorem dX7_shadowHeight_47 : decode cX7_shadowHeight 47 = .ok (.ifCond .eq 7, 3) := by decide +kernel
theorem dX7_shadowHeight_50 : decode cX7_shadowHeight 50 = .ok (.iconst 1, 1) := by decide +kernel
theorem dX7_shadowHeight_51 : decode cX7_shadowHeight 51 = .ok (.goto 4, 3) := by decide +kernel
theorem dX7_shadowHeight_54 : decode cX7_shadowHeight 54 = .ok (.iconst 0, 1) := by decide +kernel
theorem dX7_shadowHeight_55 : decode cX7_shadowHeight 55 = .ok (.iadd, 1) := by decide +kernel
theorem dX7_shadowHeight_56 : decode cX7_shadowHeight 56 = .ok (.istore_n 2, 1) := by decide +kernel
theorem dX7_shadowHeight_57 : decode cX7_shadowHeight 57 = .ok (.iinc 3 1, 3) := by decide +kernel
theorem dX7_shadowHeight_60 : decode cX7_shadowHeight 60 = .ok (.goto (-49), 3) := by decide +kernel
theorem dX7_shadowHeight_63 : decode cX7_shadowHeight 63 = .ok (.iload_n 2, 1) := by decide +kernel
theorem dX7_shadowHeight_64 : decode cX7_shadowHeight 64 = .ok (.ifCond .ne 7, 3) := by decide +kernel
theorem dX7_shadowHeight_67 : decode cX7_shadowHeight 67 = .ok (.dconst 0, 1) := by decide +kernel
theorem dX7_shadowHeight_68 : decode cX7_shadowHeight 68 = .ok (.goto 8, 3) := by decide +kernel
theorem dX7_shadowHeight_71 : decode cX7_shadowHeight 71 = .ok (.iload_n 1, 1) := by decide +kernel
theorem dX7_shadowHeight_72 : decode cX7_shadowHeight 72 = .ok (.i2d, 1) := by decide +kernel
theorem dX7_shadowHeight_73 : decode cX7_shadowHeight 73 = .ok (.iload_n 2, 1) := by decide +kernel
theorem dX7_shadowHeight_74 : decode cX7_shadowHeight 74 = .ok (.i2d, 1) := by decide +kernel
theorem dX7_shadowHeight_75 : decode cX7_shadowHeight 75 = .ok (.ddiv, 1) := by decide +kernel
theorem dX7_shadowHeight_76 : decode cX7_shadowHeight 76 = .ok (.dreturn, 1) := by decide +kernel
set_option maxRecDepth 20000 in
theorem ggX7_isOpen_X7_of : GoodIn wsX7_isOpen wsX7_of := goodIn_r _ [6, 7, 8, 9, 5, 10, 11, 12, 13, 14, 15, 16, 17, 18, 19, 20, 21, 22, 23] (by decide +kernel) (by decide +kernel)
set_option maxRecDepth 20000 in
theorem gX7_isOpen_X7_of : GoodIn wsX7_isOpen (wsV RX7 79 RX7 yX7_of wsX7_of) := goodIn_app (goodIn_of _ (by decide +kernel)) ggX7_isOpen_X7_of
theorem dX7_isOpen_0 : decode cX7_isOpen 0 = .ok (.aload_n 0, 1) := by decide +kernel
theorem dX7_isOpen_1 : decode cX7_isOpen 1 = .ok (.getfield 19, 3) := by decide +kernel
theorem dX7_isOpen_4 : decode cX7_isOpen 4 = .ok (.iload_n 1, 1) := by decide +kernel
theorem dX7_isOpen_5 : decode cX7_isOpen 5 = .ok (.iaload, 1) := by decide +kernel
theorem dX7_isOpen_6 : decode cX7_isOpen 6 = .ok (.ifCond .ne 17, 3) := by decide +kernel
theorem dX7_isOpen_9 : decode cX7_isOpen 9 = .ok (.aload_n 0, 1) := by decide +kernel
theorem dX7_isOpen_10 : decode cX7_isOpen 10 = .ok (.iload_n 1, 1) := by decide +kernel
theorem dX7_isOpen_11 : decode cX7_isOpen 11 = .ok (.iconst 0, 1) := by decide +kernel
theorem dX7_isOpen_12 : decode cX7_isOpen 12 = .ok (.invokevirtual 79, 3) := by decide +kernel
theorem dX7_isOpen_15 : decode cX7_isOpen 15 = .ok (.iload_n 2, 1) := by decide +kernel
theorem dX7_isOpen_16 : decode cX7_isOpen 16 = .ok (.if_icmp .lt 7, 3) := by decide +kernel
theorem dX7_isOpen_19 : decode cX7_isOpen 19 = .ok (.iconst 1, 1) := by decide +kernel
theorem dX7_isOpen_20 : decode cX7_isOpen 20 = .ok (.goto 4, 3) := by decide +kernel
theorem dX7_isOpen_23 : decode cX7_isOpen 23 = .ok (.iconst 0, 1) := by decide +kernel
theorem dX7_isOpen_24 : decode cX7_isOpen 24 = .ok (.ireturn, 1) := by decide +kernel
set_option maxRecDepth 20000 in
theorem ggX7_spreads_X7_neighbor : GoodIn wsX7_spreads wsX7_neighbor := goodIn_r _ [7, 8, 9, 10, 6, 11, 12, 24, 25, 26, 27, 28, 29, 30, 31, 32, 33, 34, 35, 36] (by decide +kernel) (by decide +kernel)
set_option maxRecDepth 20000 in
theorem gX7_spreads_X7_neighbor : GoodIn wsX7_spreads (wsV RX7 118 RX7 yX7_neighbor wsX7_neighbor) := goodIn_app (goodIn_of _ (by decide +kernel)) ggX7_spreads_X7_neighbor
set_option maxRecDepth 20000 in
theorem ggX7_spreads_X7_isOpen : GoodIn wsX7_spreads wsX7_isOpen := goodIn_r _ [16, 2, 17, 18, 19, 6, 20, 12, 21, 22, 23, 24, 25, 26, 27, 28, 29, 30, 31, 32, 33, 34, 35, 36] (by decide +kernel) (by decide +kernel)
set_option maxRecDepth 20000 in
theorem gX7_spreads_X7_isOpen : GoodIn wsX7_spreads (wsV RX7 178 RX7 yX7_isOpen wsX7_isOpen) := goodIn_app (goodIn_of _ (by decide +kernel)) ggX7_spreads_X7_isOpen
theorem dX7_spreads_0 : decode cX7_spreads 0 = .ok (.iconst 1, 1) := by decide +kernel
theorem dX7_spreads_1 : decode cX7_spreads 1 = .ok (.istore 4, 2) := by decide +kernel
theorem dX7_spreads_3 : decode cX7_spreads 3 = .ok (.aload_n 0, 1) := by decide +kernel
theorem dX7_spreads_4 : decode cX7_spreads 4 = .ok (.getfield 22, 3) := by decide +kernel
theorem dX7_spreads_7 : decode cX7_spreads 7 = .ok (.iconst 0, 1) := by decide +kernel
theorem dX7_spreads_8 : decode cX7_spreads 8 = .ok (.iload_n 1, 1) := by decide +kernel
theorem dX7_spreads_9 : decode cX7_spreads 9 = .ok (.iastore, 1) := by decide +kernel
theorem dX7_spreads_10 : decode cX7_spreads 10 = .ok (.aload_n 0, 1) := by decide +kernel
theorem dX7_spreads_11 : decode cX7_spreads 11 = .ok (.getfield 19, 3) := by decide +kernel
theorem dX7_spreads_14 : decode cX7_spreads 14 = .ok (.iload_n 1, 1) := by decide +kernel
theorem dX7_spreads_15 : decode cX7_spreads 15 = .ok (.iload_n 2, 1) := by decide +kernel
theorem dX7_spreads_16 : decode cX7_spreads 16 = .ok (.iastore, 1) := by decide +kernel
theorem dX7_spreads_17 : decode cX7_spreads 17 = .ok (.iload 4, 2) := by decide +kernel
theorem dX7_spreads_19 : decode cX7_spreads 19 = .ok (.ifCond .le 73, 3) := by decide +kernel
theorem dX7_spreads_22 : decode cX7_spreads 22 = .ok (.iinc 4 (-1), 3) := by decide +kernel
theorem dX7_spreads_25 : decode cX7_spreads 25 = .ok (.aload_n 0, 1) := by decide +kernel
theorem dX7_spreads_26 : decode cX7_spreads 26 = .ok (.getfield 22, 3) := by decide +kernel
theorem dX7_spreads_29 : decode cX7_spreads 29 = .ok (.iload 4, 2) := by decide +kernel
theorem dX7_spreads_31 : decode cX7_spreads 31 = .ok (.iaload, 1) := by decide +kernel
theorem dX7_spreads_32 : decode cX7_spreads 32 = .ok (.istore 5, 2) := by decide +kernel
theorem dX7_spreads_34 : decode cX7_spreads 34 = .ok (.iconst 0, 1) := by decide +kernel
theorem dX7_spreads_35 : decode cX7_spreads 35 = .ok (.istore 6, 2) := by decide +kernel
theorem dX7_spreads_37 : decode cX7_spreads 37 = .ok (.iload 6, 2) := by decide +kernel
theorem dX7_spreads_39 : decode cX7_spreads 39 = .ok (.iconst 4, 1) := by decide +kernel
theorem dX7_spreads_40 : decode cX7_spreads 40 = .ok (.if_icmp .ge 49, 3) := by decide +kernel
theorem dX7_spreads_43 : decode cX7_spreads 43 = .ok (.aload_n 0, 1) := by decide +kernel
theorem dX7_spreads_44 : decode cX7_spreads 44 = .ok (.iload 5, 2) := by decide +kernel
theorem dX7_spreads_46 : decode cX7_spreads 46 = .ok (.iload 6, 2) := by decide +kernel
theorem dX7_spreads_48 : decode cX7_spreads 48 = .ok (.invokevirtual 118, 3) := by decide +kernel
theorem dX7_spreads_51 : decode cX7_spreads 51 = .ok (.istore 7, 2) := by decide +kernel
theorem dX7_spreads_53 : decode cX7_spreads 53 = .ok (.aload_n 0, 1) := by decide +kernel
theorem dX7_spreads_54 : decode cX7_spreads 54 = .ok (.iload 7, 2) := by decide +kernel
theorem dX7_spreads_56 : decode cX7_spreads 56 = .ok (.iload_n 3, 1) := by decide +kernel
theorem dX7_spreads_57 : decode cX7_spreads 57 = .ok (.invokevirtual 178, 3) := by decide +kernel
theorem dX7_spreads_60 : decode cX7_spreads 60 = .ok (.ifCond .eq 23, 3) := by decide +kernel
theorem dX7_spreads_63 : decode cX7_spreads 63 = .ok (.aload_n 0, 1) := by decide +kernel
theorem dX7_spreads_64 : decode cX7_spreads 64 = .ok (.getfield 19, 3) := by decide +kernel
theorem dX7_spreads_67 : decode cX7_spreads 67 = .ok (.iload 7, 2) := by decide +kernel
theorem dX7_spreads_69 : decode cX7_spreads 69 = .ok (.iload_n 2, 1) := by decide +kernel
theorem dX7_spreads_70 : decode cX7_spreads 70 = .ok (.iastore, 1) := by decide +kernel
theorem dX7_spreads_71 : decode cX7_spreads 71 = .ok (.aload_n 0, 1) := by decide +kernel
theorem dX7_spreads_72 : decode cX7_spreads 72 = .ok (.getfield 22, 3) := by decide +kernel
theorem dX7_spreads_75 : decode cX7_spreads 75 = .ok (.iload 4, 2) := by decide +kernel
theorem dX7_spreads_77 : decode cX7_spreads 77 = .ok (.iload 7, 2) := by decide +kernel
theorem dX7_spreads_79 : decode cX7_spreads 79 = .ok (.iastore, 1) := by decide +kernel
theorem dX7_spreads_80 : decode cX7_spreads 80 = .ok (.iinc 4 1, 3) := by decide +kernel
theorem dX7_spreads_83 : decode cX7_spreads 83 = .ok (.iinc 6 1, 3) := by decide +kernel
theorem dX7_spreads_86 : decode cX7_spreads 86 = .ok (.goto (-49), 3) := by decide +kernel
theorem dX7_spreads_89 : decode cX7_spreads 89 = .ok (.goto (-72), 3) := by decide +kernel
theorem dX7_spreads_92 : decode cX7_spreads 92 = .ok (.return_, 1) := by decide +kernel
set_option maxRecDepth 20000 in
theorem ggX7_laysDunes_X7_cells : GoodIn wsX7_laysDunes wsX7_cells := goodIn_r _ [6, 7, 32, 33, 34, 35, 36, 37, 38, 39, 40, 41, 42, 43, 44] (by decide +kernel) (by decide +kernel)
set_option maxRecDepth 20000 in
theorem gX7_laysDunes_X7_cells : GoodIn wsX7_laysDunes (wsV RX7 43 RX7 yX7_cells wsX7_cells) := goodIn_app (goodIn_of _ (by decide +kernel)) ggX7_laysDunes_X7_cells
set_option maxRecDepth 20000 in
theorem ggX7_laysDunes_X7_isOpen : GoodIn wsX7_laysDunes wsX7_isOpen := goodIn_r _ [11, 1, 12, 13, 14, 5, 15, 7, 16, 17, 18, 32, 33, 34, 35, 36, 37, 38, 39, 40, 41, 42, 43, 44] (by decide +kernel) (by decide +kernel)
set_option maxRecDepth 20000 in
theorem gX7_laysDunes_X7_isOpen : GoodIn wsX7_laysDunes (wsV RX7 178 RX7 yX7_isOpen wsX7_isOpen) := goodIn_app (goodIn_of _ (by decide +kernel)) ggX7_laysDunes_X7_isOpen
set_option maxRecDepth 20000 in
theorem ggX7_laysDunes_X7_spreads : GoodIn wsX7_laysDunes wsX7_spreads := goodIn_r _ [22, 23, 1, 24, 25, 26, 5, 27, 28, 29, 30, 31, 7, 8, 9, 10, 11, 12, 13, 14, 15, 16, 17, 18, 32, 33, 34, 35, 36, 37, 38, 39, 40, 41, 42, 43, 44] (by decide +kernel) (by decide +kernel)
set_option maxRecDepth 20000 in
theorem gX7_laysDunes_X7_spreads : GoodIn wsX7_laysDunes (wsV RX7 181 RX7 yX7_spreads wsX7_spreads) := goodIn_app (goodIn_of _ (by decide +kernel)) ggX7_laysDunes_X7_spreads
theorem dX7_laysDunes_0 : decode cX7_laysDunes 0 = .ok (.iconst 0, 1) := by decide +kernel
theorem dX7_laysDunes_1 : decode cX7_laysDunes 1 = .ok (.istore_n 2, 1) := by decide +kernel
theorem dX7_laysDunes_2 : decode cX7_laysDunes 2 = .ok (.iload_n 2, 1) := by decide +kernel
theorem dX7_laysDunes_3 : decode cX7_laysDunes 3 = .ok (.aload_n 0, 1) := by decide +kernel
theorem dX7_laysDunes_4 : decode cX7_laysDunes 4 = .ok (.invokevirtual 43, 3) := by decide +kernel
theorem dX7_laysDunes_7 : decode cX7_laysDunes 7 = .ok (.if_icmp .ge 16, 3) := by decide +kernel
theorem dX7_laysDunes_10 : decode cX7_laysDunes 10 = .ok (.aload_n 0, 1) := by decide +kernel
theorem dX7_laysDunes_11 : decode cX7_laysDunes 11 = .ok (.getfield 19, 3) := by decide +kernel
theorem dX7_laysDunes_14 : decode cX7_laysDunes 14 = .ok (.iload_n 2, 1) := by decide +kernel
theorem dX7_laysDunes_15 : decode cX7_laysDunes 15 = .ok (.iconst 0, 1) := by decide +kernel
theorem dX7_laysDunes_16 : decode cX7_laysDunes 16 = .ok (.iastore, 1) := by decide +kernel
theorem dX7_laysDunes_17 : decode cX7_laysDunes 17 = .ok (.iinc 2 1, 3) := by decide +kernel
theorem dX7_laysDunes_20 : decode cX7_laysDunes 20 = .ok (.goto (-18), 3) := by decide +kernel
theorem dX7_laysDunes_23 : decode cX7_laysDunes 23 = .ok (.iconst 0, 1) := by decide +kernel
theorem dX7_laysDunes_24 : decode cX7_laysDunes 24 = .ok (.istore_n 2, 1) := by decide +kernel
theorem dX7_laysDunes_25 : decode cX7_laysDunes 25 = .ok (.iconst 0, 1) := by decide +kernel
theorem dX7_laysDunes_26 : decode cX7_laysDunes 26 = .ok (.istore_n 3, 1) := by decide +kernel
theorem dX7_laysDunes_27 : decode cX7_laysDunes 27 = .ok (.iload_n 3, 1) := by decide +kernel
theorem dX7_laysDunes_28 : decode cX7_laysDunes 28 = .ok (.aload_n 0, 1) := by decide +kernel
theorem dX7_laysDunes_29 : decode cX7_laysDunes 29 = .ok (.invokevirtual 43, 3) := by decide +kernel
theorem dX7_laysDunes_32 : decode cX7_laysDunes 32 = .ok (.if_icmp .ge 28, 3) := by decide +kernel
theorem dX7_laysDunes_35 : decode cX7_laysDunes 35 = .ok (.aload_n 0, 1) := by decide +kernel
theorem dX7_laysDunes_36 : decode cX7_laysDunes 36 = .ok (.iload_n 3, 1) := by decide +kernel
theorem dX7_laysDunes_37 : decode cX7_laysDunes 37 = .ok (.iload_n 1, 1) := by decide +kernel
theorem dX7_laysDunes_38 : decode cX7_laysDunes 38 = .ok (.invokevirtual 178, 3) := by decide +kernel
theorem dX7_laysDunes_41 : decode cX7_laysDunes 41 = .ok (.ifCond .eq 13, 3) := by decide +kernel
theorem dX7_laysDunes_44 : decode cX7_laysDunes 44 = .ok (.iinc 2 1, 3) := by decide +kernel
theorem dX7_laysDunes_47 : decode cX7_laysDunes 47 = .ok (.aload_n 0, 1) := by decide +kernel
theorem dX7_laysDunes_48 : decode cX7_laysDunes 48 = .ok (.iload_n 3, 1) := by decide +kernel
theorem dX7_laysDunes_49 : decode cX7_laysDunes 49 = .ok (.iload_n 2, 1) := by decide +kernel
theorem dX7_laysDunes_50 : decode cX7_laysDunes 50 = .ok (.iload_n 1, 1) := by decide +kernel
theorem dX7_laysDunes_51 : decode cX7_laysDunes 51 = .ok (.invokevirtual 181, 3) := by decide +kernel
theorem dX7_laysDunes_54 : decode cX7_laysDunes 54 = .ok (.iinc 3 1, 3) := by decide +kernel
theorem dX7_laysDunes_57 : decode cX7_laysDunes 57 = .ok (.goto (-30), 3) := by decide +kernel
theorem dX7_laysDunes_60 : decode cX7_laysDunes 60 = .ok (.iload_n 2, 1) := by decide +kernel
theorem dX7_laysDunes_61 : decode cX7_laysDunes 61 = .ok (.ireturn, 1) := by decide +kernel
set_option maxRecDepth 20000 in
theorem ggX7_isThreshold_X7_in : GoodIn wsX7_isThreshold wsX7_in := goodIn_r _ [5] (by decide +kernel) (by decide +kernel)
set_option maxRecDepth 20000 in
theorem gX7_isThreshold_X7_in : GoodIn wsX7_isThreshold (va_wsS RX7 47 yX7_in wsX7_in) := goodIn_app (goodIn_of _ (by decide +kernel)) ggX7_isThreshold_X7_in
theorem dX7_isThreshold_0 : decode cX7_isThreshold 0 = .ok (.iload_n 0, 1) := by decide +kernel
theorem dX7_isThreshold_1 : decode cX7_isThreshold 1 = .ok (.i2l, 1) := by decide +kernel
theorem dX7_isThreshold_2 : decode cX7_isThreshold 2 = .ok (.lconst 1, 1) := by decide +kernel
theorem dX7_isThreshold_3 : decode cX7_isThreshold 3 = .ok (.ldc2_w 77, 3) := by decide +kernel
theorem dX7_isThreshold_6 : decode cX7_isThreshold 6 = .ok (.invokestatic 47, 3) := by decide +kernel
theorem dX7_isThreshold_9 : decode cX7_isThreshold 9 = .ok (.ireturn, 1) := by decide +kernel
set_option maxRecDepth 20000 in
theorem ggX7_dunes_X7_isThreshold : GoodIn wsX7_dunes wsX7_isThreshold := goodIn_r _ [4, 5, 6, 7, 3, 8] (by decide +kernel) (by decide +kernel)
set_option maxRecDepth 20000 in
theorem gX7_dunes_X7_isThreshold : GoodIn wsX7_dunes (va_wsS RX7 184 yX7_isThreshold wsX7_isThreshold) := goodIn_app (goodIn_of _ (by decide +kernel)) ggX7_dunes_X7_isThreshold
set_option maxRecDepth 20000 in
theorem ggX7_dunes_X7_goes : GoodIn wsX7_dunes wsX7_goes := goodIn_r _ [12, 13, 48, 49, 50, 51, 52, 53, 54, 55, 56, 57, 58, 59, 60] (by decide +kernel) (by decide +kernel)
set_option maxRecDepth 20000 in
theorem gX7_dunes_X7_goes : GoodIn wsX7_dunes (wsV RX7 66 RX7 yX7_goes wsX7_goes) := goodIn_app (goodIn_of _ (by decide +kernel)) ggX7_dunes_X7_goes
set_option maxRecDepth 20000 in
theorem ggX7_dunes_X7_laysDunes : GoodIn wsX7_dunes wsX7_laysDunes := goodIn_r _ [17, 18, 19, 20, 21, 3, 22, 23, 24, 25, 26, 27, 28, 29, 30, 31, 32, 33, 34, 35, 36, 37, 38, 39, 40, 41, 42, 43, 44, 45, 46, 47, 48, 49, 50, 51, 52, 53, 54, 55, 56, 57, 58, 59, 60] (by decide +kernel) (by decide +kernel)
set_option maxRecDepth 20000 in
theorem gX7_dunes_X7_laysDunes : GoodIn wsX7_dunes (wsV RX7 187 RX7 yX7_laysDunes wsX7_laysDunes) := goodIn_app (goodIn_of _ (by decide +kernel)) ggX7_dunes_X7_laysDunes
theorem dX7_dunes_0 : decode cX7_dunes 0 = .ok (.aload_n 0, 1) := by decide +kernel
theorem dX7_dunes_1 : decode cX7_dunes 1 = .ok (.iload_n 1, 1) := by decide +kernel
theorem dX7_dunes_2 : decode cX7_dunes 2 = .ok (.invokestatic 184, 3) := by decide +kernel
theorem dX7_dunes_5 : decode cX7_dunes 5 = .ok (.iconst 1, 1) := by decide +kernel
theorem dX7_dunes_6 : decode cX7_dunes 6 = .ok (.invokevirtual 66, 3) := by decide +kernel
theorem dX7_dunes_9 : decode cX7_dunes 9 = .ok (.ifCond .eq 11, 3) := by decide +kernel
theorem dX7_dunes_12 : decode cX7_dunes 12 = .ok (.aload_n 0, 1) := by decide +kernel
theorem dX7_dunes_13 : decode cX7_dunes 13 = .ok (.iload_n 1, 1) := by decide +kernel
theorem dX7_dunes_14 : decode cX7_dunes 14 = .ok (.invokevirtual 187, 3) := by decide +kernel
theorem dX7_dunes_17 : decode cX7_dunes 17 = .ok (.goto 4, 3) := by decide +kernel
theorem dX7_dunes_20 : decode cX7_dunes 20 = .ok (.iconst 0, 1) := by decide +kernel
theorem dX7_dunes_21 : decode cX7_dunes 21 = .ok (.ireturn, 1) := by decide +kernel
set_option maxRecDepth 20000 in
theorem ggX7_greatestDune_X7_isThreshold : GoodIn wsX7_greatestDune wsX7_isThreshold := goodIn_r _ [5, 6, 7, 8, 4, 9] (by decide +kernel) (by decide +kernel)
set_option maxRecDepth 20000 in
theorem gX7_greatestDune_X7_isThreshold : GoodIn wsX7_greatestDune (va_wsS RX7 184 yX7_isThreshold wsX7_isThreshold) := goodIn_app (goodIn_of _ (by decide +kernel)) ggX7_greatestDune_X7_isThreshold
set_option maxRecDepth 20000 in
theorem ggX7_greatestDune_X7_goes : GoodIn wsX7_greatestDune wsX7_goes := goodIn_r _ [13, 14, 48, 49, 50, 51, 52, 53, 54, 55, 56, 57, 58, 59, 60] (by decide +kernel) (by decide +kernel)
set_option maxRecDepth 20000 in
theorem gX7_greatestDune_X7_goes : GoodIn wsX7_greatestDune (wsV RX7 66 RX7 yX7_goes wsX7_goes) := goodIn_app (goodIn_of _ (by decide +kernel)) ggX7_greatestDune_X7_goes
set_option maxRecDepth 20000 in
theorem ggX7_greatestDune_X7_laysDunes : GoodIn wsX7_greatestDune wsX7_laysDunes := goodIn_r _ [18, 1, 19, 20, 21, 4, 22, 23, 24, 25, 26, 27, 28, 29, 30, 31, 32, 33, 34, 35, 36, 37, 38, 39, 40, 41, 42, 43, 44, 45, 46, 47, 48, 49, 50, 51, 52, 53, 54, 55, 56, 57, 58, 59, 60] (by decide +kernel) (by decide +kernel)
set_option maxRecDepth 20000 in
theorem gX7_greatestDune_X7_laysDunes : GoodIn wsX7_greatestDune (wsV RX7 187 RX7 yX7_laysDunes wsX7_laysDunes) := goodIn_app (goodIn_of _ (by decide +kernel)) ggX7_greatestDune_X7_laysDunes
set_option maxRecDepth 20000 in
theorem ggX7_greatestDune_X7_cells : GoodIn wsX7_greatestDune wsX7_cells := goodIn_r _ [22, 23, 48, 49, 50, 51, 52, 53, 54, 55, 56, 57, 58, 59, 60] (by decide +kernel) (by decide +kernel)
set_option maxRecDepth 20000 in
theorem gX7_greatestDune_X7_cells : GoodIn wsX7_greatestDune (wsV RX7 43 RX7 yX7_cells wsX7_cells) := goodIn_app (goodIn_of _ (by decide +kernel)) ggX7_greatestDune_X7_cells
set_option maxRecDepth 20000 in
theorem ggX7_greatestDune_X7_of : GoodIn wsX7_greatestDune wsX7_of := goodIn_r _ [31, 23, 32, 33, 4, 34, 48, 49, 50, 51, 52, 53, 54, 55, 56, 57, 58, 59, 60] (by decide +kernel) (by decide +kernel)
set_option maxRecDepth 20000 in
theorem gX7_greatestDune_X7_of : GoodIn wsX7_greatestDune (wsV RX7 79 RX7 yX7_of wsX7_of) := goodIn_app (goodIn_of _ (by decide +kernel)) ggX7_greatestDune_X7_of
theorem dX7_greatestDune_0 : decode cX7_greatestDune 0 = .ok (.aload_n 0, 1) := by decide +kernel
theorem dX7_greatestDune_1 : decode cX7_greatestDune 1 = .ok (.iload_n 1, 1) := by decide +kernel
theorem dX7_greatestDune_2 : decode cX7_greatestDune 2 = .ok (.invokestatic 184, 3) := by decide +kernel
theorem dX7_greatestDune_5 : decode cX7_greatestDune 5 = .ok (.iconst 1, 1) := by decide +kernel
theorem dX7_greatestDune_6 : decode cX7_greatestDune 6 = .ok (.invokevirtual 66, 3) := by decide +kernel
theorem dX7_greatestDune_9 : decode cX7_greatestDune 9 = .ok (.ifCond .ne 5, 3) := by decide +kernel
theorem dX7_greatestDune_12 : decode cX7_greatestDune 12 = .ok (.iconst 0, 1) := by decide +kernel
theorem dX7_greatestDune_13 : decode cX7_greatestDune 13 = .ok (.ireturn, 1) := by decide +kernel
theorem dX7_greatestDune_14 : decode cX7_greatestDune 14 = .ok (.aload_n 0, 1) := by decide +kernel
theorem dX7_greatestDune_15 : decode cX7_greatestDune 15 = .ok (.iload_n 1, 1) := by decide +kernel
theorem dX7_greatestDune_16 : decode cX7_greatestDune 16 = .ok (.invokevirtual 187, 3) := by decide +kernel
theorem dX7_greatestDune_19 : decode cX7_greatestDune 19 = .ok (.istore_n 2, 1) := by decide +kernel
theorem dX7_greatestDune_20 : decode cX7_greatestDune 20 = .ok (.iconst 0, 1) := by decide +kernel
theorem dX7_greatestDune_21 : decode cX7_greatestDune 21 = .ok (.istore_n 3, 1) := by decide +kernel
theorem dX7_greatestDune_22 : decode cX7_greatestDune 22 = .ok (.iconst 1, 1) := by decide +kernel
theorem dX7_greatestDune_23 : decode cX7_greatestDune 23 = .ok (.istore 4, 2) := by decide +kernel
theorem dX7_greatestDune_25 : decode cX7_greatestDune 25 = .ok (.iload 4, 2) := by decide +kernel
theorem dX7_greatestDune_27 : decode cX7_greatestDune 27 = .ok (.iload_n 2, 1) := by decide +kernel
theorem dX7_greatestDune_28 : decode cX7_greatestDune 28 = .ok (.if_icmp .gt 71, 3) := by decide +kernel
theorem dX7_greatestDune_31 : decode cX7_greatestDune 31 = .ok (.iconst 0, 1) := by decide +kernel
theorem dX7_greatestDune_32 : decode cX7_greatestDune 32 = .ok (.istore 5, 2) := by decide +kernel
theorem dX7_greatestDune_34 : decode cX7_greatestDune 34 = .ok (.iconst 0, 1) := by decide +kernel
theorem dX7_greatestDune_35 : decode cX7_greatestDune 35 = .ok (.istore 6, 2) := by decide +kernel
theorem dX7_greatestDune_37 : decode cX7_greatestDune 37 = .ok (.iload 6, 2) := by decide +kernel
theorem dX7_greatestDune_39 : decode cX7_greatestDune 39 = .ok (.aload_n 0, 1) := by decide +kernel
theorem dX7_greatestDune_40 : decode cX7_greatestDune 40 = .ok (.invokevirtual 43, 3) := by decide +kernel
theorem dX7_greatestDune_43 : decode cX7_greatestDune 43 = .ok (.if_icmp .ge 37, 3) := by decide +kernel
theorem dX7_greatestDune_46 : decode cX7_greatestDune 46 = .ok (.iload 5, 2) := by decide +kernel
theorem dX7_greatestDune_48 : decode cX7_greatestDune 48 = .ok (.aload_n 0, 1) := by decide +kernel
theorem dX7_greatestDune_49 : decode cX7_greatestDune 49 = .ok (.getfield 19, 3) := by decide +kernel
theorem dX7_greatestDune_52 : decode cX7_greatestDune 52 = .ok (.iload 6, 2) := by decide +kernel
theorem dX7_greatestDune_54 : decode cX7_greatestDune 54 = .ok (.iaload, 1) := by decide +kernel
theorem dX7_greatestDune_55 : decode cX7_greatestDune 55 = .ok (.iload 4, 2) := by decide +kernel
theorem dX7_greatestDune_57 : decode cX7_greatestDune 57 = .ok (.if_icmp .ne 13, 3) := by decide +kernel
theorem dX7_greatestDune_60 : decode cX7_greatestDune 60 = .ok (.aload_n 0, 1) := by decide +kernel
theorem dX7_greatestDune_61 : decode cX7_greatestDune 61 = .ok (.iload 6, 2) := by decide +kernel
theorem dX7_greatestDune_63 : decode cX7_greatestDune 63 = .ok (.iconst 0, 1) := by decide +kernel
theorem dX7_greatestDune_64 : decode cX7_greatestDune 64 = .ok (.invokevirtual 79, 3) := by decide +kernel
theorem dX7_greatestDune_67 : decode cX7_greatestDune 67 = .ok (.goto 4, 3) := by decide +kernel
theorem dX7_greatestDune_70 : decode cX7_greatestDune 70 = .ok (.iconst 0, 1) := by decide +kernel
theorem dX7_greatestDune_71 : decode cX7_greatestDune 71 = .ok (.iadd, 1) := by decide +kernel
theorem dX7_greatestDune_72 : decode cX7_greatestDune 72 = .ok (.istore 5, 2) := by decide +kernel
theorem dX7_greatestDune_74 : decode cX7_greatestDune 74 = .ok (.iinc 6 1, 3) := by decide +kernel
theorem dX7_greatestDune_77 : decode cX7_greatestDune 77 = .ok (.goto (-40), 3) := by decide +kernel
theorem dX7_greatestDune_80 : decode cX7_greatestDune 80 = .ok (.iload 5, 2) := by decide +kernel
theorem dX7_greatestDune_82 : decode cX7_greatestDune 82 = .ok (.iload_n 3, 1) := by decide +kernel
theorem dX7_greatestDune_83 : decode cX7_greatestDune 83 = .ok (.if_icmp .le 8, 3) := by decide +kernel
theorem dX7_greatestDune_86 : decode cX7_greatestDune 86 = .ok (.iload 5, 2) := by decide +kernel
theorem dX7_greatestDune_88 : decode cX7_greatestDune 88 = .ok (.goto 4, 3) := by decide +kernel
theorem dX7_greatestDune_91 : decode cX7_greatestDune 91 = .ok (.iload_n 3, 1) := by decide +kernel
theorem dX7_greatestDune_92 : decode cX7_greatestDune 92 = .ok (.istore_n 3, 1) := by decide +kernel
theorem dX7_greatestDune_93 : decode cX7_greatestDune 93 = .ok (.iinc 4 1, 3) := by decide +kernel
theorem dX7_greatestDune_96 : decode cX7_greatestDune 96 = .ok (.goto (-71), 3) := by decide +kernel
theorem dX7_greatestDune_99 : decode cX7_greatestDune 99 = .ok (.iload_n 3, 1) := by decide +kernel
theorem dX7_greatestDune_100 : decode cX7_greatestDune 100 = .ok (.ireturn, 1) := by decide +kernel
set_option maxRecDepth 20000 in
theorem ggX7_duneOf_X7_isCell : GoodIn wsX7_duneOf wsX7_isCell := goodIn_r _ [6, 7, 8, 9, 5, 10, 11, 12, 13, 14, 52, 53, 54, 55, 56, 57, 58, 59, 60, 61, 62, 63, 64] (by decide +kernel) (by decide +kernel)
set_option maxRecDepth 20000 in
theorem gX7_duneOf_X7_isCell : GoodIn wsX7_duneOf (wsV RX7 73 RX7 yX7_isCell wsX7_isCell) := goodIn_app (goodIn_of _ (by decide +kernel)) ggX7_duneOf_X7_isCell
set_option maxRecDepth 20000 in
theorem ggX7_duneOf_X7_isThreshold : GoodIn wsX7_duneOf wsX7_isThreshold := goodIn_r _ [17, 18, 12, 13, 5, 14] (by decide +kernel) (by decide +kernel)
set_option maxRecDepth 20000 in
theorem gX7_duneOf_X7_isThreshold : GoodIn wsX7_duneOf (va_wsS RX7 184 yX7_isThreshold wsX7_isThreshold) := goodIn_app (goodIn_of _ (by decide +kernel)) ggX7_duneOf_X7_isThreshold
set_option maxRecDepth 20000 in
theorem ggX7_duneOf_X7_goes : GoodIn wsX7_duneOf wsX7_goes := goodIn_r _ [22, 23, 52, 53, 54, 55, 56, 57, 58, 59, 60, 61, 62, 63, 64] (by decide +kernel) (by decide +kernel)
set_option maxRecDepth 20000 in
theorem gX7_duneOf_X7_goes : GoodIn wsX7_duneOf (wsV RX7 66 RX7 yX7_goes wsX7_goes) := goodIn_app (goodIn_of _ (by decide +kernel)) ggX7_duneOf_X7_goes
set_option maxRecDepth 20000 in
theorem ggX7_duneOf_X7_laysDunes : GoodIn wsX7_duneOf wsX7_laysDunes := goodIn_r _ [27, 1, 7, 8, 9, 5, 10, 11, 28, 29, 30, 31, 32, 33, 34, 35, 36, 37, 38, 39, 40, 41, 42, 43, 44, 45, 46, 47, 48, 49, 50, 51, 52, 53, 54, 55, 56, 57, 58, 59, 60, 61, 62, 63, 64] (by decide +kernel) (by decide +kernel)
set_option maxRecDepth 20000 in
theorem gX7_duneOf_X7_laysDunes : GoodIn wsX7_duneOf (wsV RX7 187 RX7 yX7_laysDunes wsX7_laysDunes) := goodIn_app (goodIn_of _ (by decide +kernel)) ggX7_duneOf_X7_laysDunes
set_option maxRecDepth 20000 in
theorem ggX7_duneOf_X7_cells : GoodIn wsX7_duneOf wsX7_cells := goodIn_r _ [10, 11, 52, 53, 54, 55, 56, 57, 58, 59, 60, 61, 62, 63, 64] (by decide +kernel) (by decide +kernel)
set_option maxRecDepth 20000 in
theorem gX7_duneOf_X7_cells : GoodIn wsX7_duneOf (wsV RX7 43 RX7 yX7_cells wsX7_cells) := goodIn_app (goodIn_of _ (by decide +kernel)) ggX7_duneOf_X7_cells
theorem dX7_duneOf_0 : decode cX7_duneOf 0 = .ok (.aload_n 0, 1) := by decide +kernel
theorem dX7_duneOf_1 : decode cX7_duneOf 1 = .ok (.aload_n 0, 1) := by decide +kernel
theorem dX7_duneOf_2 : decode cX7_duneOf 2 = .ok (.iload_n 1, 1) := by decide +kernel
theorem dX7_duneOf_3 : decode cX7_duneOf 3 = .ok (.invokevirtual 73, 3) := by decide +kernel
theorem dX7_duneOf_6 : decode cX7_duneOf 6 = .ok (.iload_n 2, 1) := by decide +kernel
theorem dX7_duneOf_7 : decode cX7_duneOf 7 = .ok (.invokestatic 184, 3) := by decide +kernel
theorem dX7_duneOf_10 : decode cX7_duneOf 10 = .ok (.invokevirtual 66, 3) := by decide +kernel
theorem dX7_duneOf_13 : decode cX7_duneOf 13 = .ok (.ifCond .ne 5, 3) := by decide +kernel
theorem dX7_duneOf_16 : decode cX7_duneOf 16 = .ok (.iconst 0, 1) := by decide +kernel
theorem dX7_duneOf_17 : decode cX7_duneOf 17 = .ok (.ireturn, 1) := by decide +kernel
theorem dX7_duneOf_18 : decode cX7_duneOf 18 = .ok (.aload_n 0, 1) := by decide +kernel
theorem dX7_duneOf_19 : decode cX7_duneOf 19 = .ok (.iload_n 2, 1) := by decide +kernel
theorem dX7_duneOf_20 : decode cX7_duneOf 20 = .ok (.invokevirtual 187, 3) := by decide +kernel
theorem dX7_duneOf_23 : decode cX7_duneOf 23 = .ok (.istore_n 3, 1) := by decide +kernel
theorem dX7_duneOf_24 : decode cX7_duneOf 24 = .ok (.iconst 0, 1) := by decide +kernel
theorem dX7_duneOf_25 : decode cX7_duneOf 25 = .ok (.istore 4, 2) := by decide +kernel
theorem dX7_duneOf_27 : decode cX7_duneOf 27 = .ok (.iconst 0, 1) := by decide +kernel
theorem dX7_duneOf_28 : decode cX7_duneOf 28 = .ok (.istore 5, 2) := by decide +kernel
theorem dX7_duneOf_30 : decode cX7_duneOf 30 = .ok (.iload 5, 2) := by decide +kernel
theorem dX7_duneOf_32 : decode cX7_duneOf 32 = .ok (.aload_n 0, 1) := by decide +kernel
theorem dX7_duneOf_33 : decode cX7_duneOf 33 = .ok (.invokevirtual 43, 3) := by decide +kernel
theorem dX7_duneOf_36 : decode cX7_duneOf 36 = .ok (.if_icmp .ge 48, 3) := by decide +kernel
theorem dX7_duneOf_39 : decode cX7_duneOf 39 = .ok (.iload 4, 2) := by decide +kernel
theorem dX7_duneOf_41 : decode cX7_duneOf 41 = .ok (.iload_n 3, 1) := by decide +kernel
theorem dX7_duneOf_42 : decode cX7_duneOf 42 = .ok (.ifCond .le 32, 3) := by decide +kernel
theorem dX7_duneOf_45 : decode cX7_duneOf 45 = .ok (.aload_n 0, 1) := by decide +kernel
theorem dX7_duneOf_46 : decode cX7_duneOf 46 = .ok (.getfield 19, 3) := by decide +kernel
theorem dX7_duneOf_49 : decode cX7_duneOf 49 = .ok (.iload_n 1, 1) := by decide +kernel
theorem dX7_duneOf_50 : decode cX7_duneOf 50 = .ok (.iaload, 1) := by decide +kernel
theorem dX7_duneOf_51 : decode cX7_duneOf 51 = .ok (.ifCond .le 23, 3) := by decide +kernel
theorem dX7_duneOf_54 : decode cX7_duneOf 54 = .ok (.aload_n 0, 1) := by decide +kernel
theorem dX7_duneOf_55 : decode cX7_duneOf 55 = .ok (.getfield 19, 3) := by decide +kernel
theorem dX7_duneOf_58 : decode cX7_duneOf 58 = .ok (.iload 5, 2) := by decide +kernel
theorem dX7_duneOf_60 : decode cX7_duneOf 60 = .ok (.iaload, 1) := by decide +kernel
theorem dX7_duneOf_61 : decode cX7_duneOf 61 = .ok (.aload_n 0, 1) := by decide +kernel
theorem dX7_duneOf_62 : decode cX7_duneOf 62 = .ok (.getfield 19, 3) := by decide +kernel
theorem dX7_duneOf_65 : decode cX7_duneOf 65 = .ok (.iload_n 1, 1) := by decide +kernel
theorem dX7_duneOf_66 : decode cX7_duneOf 66 = .ok (.iaload, 1) := by decide +kernel
theorem dX7_duneOf_67 : decode cX7_duneOf 67 = .ok (.if_icmp .ne 7, 3) := by decide +kernel
theorem dX7_duneOf_70 : decode cX7_duneOf 70 = .ok (.iconst 1, 1) := by decide +kernel
theorem dX7_duneOf_71 : decode cX7_duneOf 71 = .ok (.goto 4, 3) := by decide +kernel
theorem dX7_duneOf_74 : decode cX7_duneOf 74 = .ok (.iconst 0, 1) := by decide +kernel
theorem dX7_duneOf_75 : decode cX7_duneOf 75 = .ok (.iadd, 1) := by decide +kernel
theorem dX7_duneOf_76 : decode cX7_duneOf 76 = .ok (.istore 4, 2) := by decide +kernel
theorem dX7_duneOf_78 : decode cX7_duneOf 78 = .ok (.iinc 5 1, 3) := by decide +kernel
theorem dX7_duneOf_81 : decode cX7_duneOf 81 = .ok (.goto (-51), 3) := by decide +kernel
theorem dX7_duneOf_84 : decode cX7_duneOf 84 = .ok (.iload 4, 2) := by decide +kernel
theorem dX7_duneOf_86 : decode cX7_duneOf 86 = .ok (.ireturn, 1) := by decide +kernel
set_option maxRecDepth 20000 in
theorem ggX7_dunesAfter_X7_in : GoodIn wsX7_dunesAfter wsX7_in := goodIn_r _ [5] (by decide +kernel) (by decide +kernel)
set_option maxRecDepth 20000 in
theorem gX7_dunesAfter_X7_in : GoodIn wsX7_dunesAfter (va_wsS RX7 47 yX7_in wsX7_in) := goodIn_app (goodIn_of _ (by decide +kernel)) ggX7_dunesAfter_X7_in
set_option maxRecDepth 20000 in
theorem ggX7_dunesAfter_X7_isThreshold : GoodIn wsX7_dunesAfter wsX7_isThreshold := goodIn_r _ [8, 9, 2, 3, 4, 5] (by decide +kernel) (by decide +kernel)
set_option maxRecDepth 20000 in
theorem gX7_dunesAfter_X7_isThreshold : GoodIn wsX7_dunesAfter (va_wsS RX7 184 yX7_isThreshold wsX7_isThreshold) := goodIn_app (goodIn_of _ (by decide +kernel)) ggX7_dunesAfter_X7_isThreshold
set_option maxRecDepth 20000 in
theorem ggX7_dunesAfter_X7_goes : GoodIn wsX7_dunesAfter wsX7_goes := goodIn_r _ [13, 14, 116, 117, 118, 119, 120, 121, 122, 123, 124, 125, 126, 127, 128] (by decide +kernel) (by decide +kernel)
set_option maxRecDepth 20000 in
theorem gX7_dunesAfter_X7_goes : GoodIn wsX7_dunesAfter (wsV RX7 66 RX7 yX7_goes wsX7_goes) := goodIn_app (goodIn_of _ (by decide +kernel)) ggX7_dunesAfter_X7_goes
set_option maxRecDepth 20000 in
theorem ggX7_dunesAfter_X7_lays : GoodIn wsX7_dunesAfter wsX7_lays := goodIn_r _ [18, 19, 20, 116, 117, 118, 119, 120, 121, 122, 123, 124, 125, 126, 127, 128] (by decide +kernel) (by decide +kernel)
set_option maxRecDepth 20000 in
theorem gX7_dunesAfter_X7_lays : GoodIn wsX7_dunesAfter (wsV RX7 192 RX7 yX7_lays wsX7_lays) := goodIn_app (goodIn_of _ (by decide +kernel)) ggX7_dunesAfter_X7_lays
set_option maxRecDepth 20000 in
theorem ggX7_dunesAfter_X7_runs : GoodIn wsX7_dunesAfter wsX7_runs := goodIn_r _ [24, 25, 26, 27, 4, 28, 29, 30, 20, 31, 32, 33, 34, 35, 36, 37, 38, 39, 40, 41, 42, 43, 44, 45, 46, 47, 48, 49, 50, 51, 52, 53, 54, 55, 56, 57, 58, 59, 60, 61, 62, 63, 64, 65, 66, 67, 68, 69, 70, 71, 72, 73, 74, 75, 76, 77, 78, 79, 80, 81, 82, 83, 84, 85, 86, 87, 88, 89, 90, 91, 92, 93, 94, 95, 96, 97, 116, 117, 118, 119, 120, 121, 122, 123, 124, 125, 126, 127, 128] (by decide +kernel) (by decide +kernel)
set_option maxRecDepth 20000 in
theorem gX7_dunesAfter_X7_runs : GoodIn wsX7_dunesAfter (wsV RX7 165 RX7 yX7_runs wsX7_runs) := goodIn_app (goodIn_of _ (by decide +kernel)) ggX7_dunesAfter_X7_runs
set_option maxRecDepth 20000 in
theorem ggX7_dunesAfter_X7_laysDunes : GoodIn wsX7_dunesAfter wsX7_laysDunes := goodIn_r _ [101, 102, 31, 32, 33, 4, 34, 20, 103, 104, 105, 106, 47, 48, 49, 50, 51, 52, 53, 107, 108, 109, 110, 111, 74, 75, 76, 77, 62, 63, 64, 65, 116, 117, 118, 119, 120, 121, 122, 123, 124, 125, 126, 127, 128] (by decide +kernel) (by decide +kernel)
set_option maxRecDepth 20000 in
theorem gX7_dunesAfter_X7_laysDunes : GoodIn wsX7_dunesAfter (wsV RX7 187 RX7 yX7_laysDunes wsX7_laysDunes) := goodIn_app (goodIn_of _ (by decide +kernel)) ggX7_dunesAfter_X7_laysDunes
set_option maxRecDepth 20000 in
theorem ggX7_dunesAfter_X7_takesBack : GoodIn wsX7_dunesAfter wsX7_takesBack := goodIn_r _ [115, 20, 19, 116, 117, 118, 119, 120, 121, 122, 123, 124, 125, 126, 127, 128] (by decide +kernel) (by decide +kernel)
set_option maxRecDepth 20000 in
theorem gX7_dunesAfter_X7_takesBack : GoodIn wsX7_dunesAfter (wsV RX7 195 RX7 yX7_takesBack wsX7_takesBack) := goodIn_app (goodIn_of _ (by decide +kernel)) ggX7_dunesAfter_X7_takesBack
theorem dX7_dunesAfter_0 : decode cX7_dunesAfter 0 = .ok (.aload_n 0, 1) := by decide +kernel
theorem dX7_dunesAfter_1 : decode cX7_dunesAfter 1 = .ok (.iload_n 1, 1) := by decide +kernel
theorem dX7_dunesAfter_2 : decode cX7_dunesAfter 2 = .ok (.i2l, 1) := by decide +kernel
theorem dX7_dunesAfter_3 : decode cX7_dunesAfter 3 = .ok (.lconst 0, 1) := by decide +kernel
theorem dX7_dunesAfter_4 : decode cX7_dunesAfter 4 = .ok (.ldc2_w 190, 3) := by decide +kernel
theorem dX7_dunesAfter_7 : decode cX7_dunesAfter 7 = .ok (.invokestatic 47, 3) := by decide +kernel
theorem dX7_dunesAfter_10 : decode cX7_dunesAfter 10 = .ok (.ifCond .eq 14, 3) := by decide +kernel
theorem dX7_dunesAfter_13 : decode cX7_dunesAfter 13 = .ok (.iload_n 2, 1) := by decide +kernel
theorem dX7_dunesAfter_14 : decode cX7_dunesAfter 14 = .ok (.invokestatic 184, 3) := by decide +kernel
theorem dX7_dunesAfter_17 : decode cX7_dunesAfter 17 = .ok (.ifCond .eq 7, 3) := by decide +kernel
theorem dX7_dunesAfter_20 : decode cX7_dunesAfter 20 = .ok (.iconst 1, 1) := by decide +kernel
theorem dX7_dunesAfter_21 : decode cX7_dunesAfter 21 = .ok (.goto 4, 3) := by decide +kernel
theorem dX7_dunesAfter_24 : decode cX7_dunesAfter 24 = .ok (.iconst 0, 1) := by decide +kernel
theorem dX7_dunesAfter_25 : decode cX7_dunesAfter 25 = .ok (.iconst 1, 1) := by decide +kernel
theorem dX7_dunesAfter_26 : decode cX7_dunesAfter 26 = .ok (.invokevirtual 66, 3) := by decide +kernel
theorem dX7_dunesAfter_29 : decode cX7_dunesAfter 29 = .ok (.ifCond .ne 5, 3) := by decide +kernel
theorem dX7_dunesAfter_32 : decode cX7_dunesAfter 32 = .ok (.iconst 0, 1) := by decide +kernel
theorem dX7_dunesAfter_33 : decode cX7_dunesAfter 33 = .ok (.ireturn, 1) := by decide +kernel
theorem dX7_dunesAfter_34 : decode cX7_dunesAfter 34 = .ok (.aload_n 0, 1) := by decide +kernel
theorem dX7_dunesAfter_35 : decode cX7_dunesAfter 35 = .ok (.invokevirtual 192, 3) := by decide +kernel
theorem dX7_dunesAfter_38 : decode cX7_dunesAfter 38 = .ok (.aload_n 0, 1) := by decide +kernel
theorem dX7_dunesAfter_39 : decode cX7_dunesAfter 39 = .ok (.iload_n 1, 1) := by decide +kernel
theorem dX7_dunesAfter_40 : decode cX7_dunesAfter 40 = .ok (.invokevirtual 165, 3) := by decide +kernel
theorem dX7_dunesAfter_43 : decode cX7_dunesAfter 43 = .ok (.istore_n 3, 1) := by decide +kernel
theorem dX7_dunesAfter_44 : decode cX7_dunesAfter 44 = .ok (.iload_n 3, 1) := by decide +kernel
theorem dX7_dunesAfter_45 : decode cX7_dunesAfter 45 = .ok (.ifCond .ge 7, 3) := by decide +kernel
theorem dX7_dunesAfter_48 : decode cX7_dunesAfter 48 = .ok (.iconst 0, 1) := by decide +kernel
theorem dX7_dunesAfter_49 : decode cX7_dunesAfter 49 = .ok (.goto 8, 3) := by decide +kernel
theorem dX7_dunesAfter_52 : decode cX7_dunesAfter 52 = .ok (.aload_n 0, 1) := by decide +kernel
theorem dX7_dunesAfter_53 : decode cX7_dunesAfter 53 = .ok (.iload_n 2, 1) := by decide +kernel
theorem dX7_dunesAfter_54 : decode cX7_dunesAfter 54 = .ok (.invokevirtual 187, 3) := by decide +kernel
theorem dX7_dunesAfter_57 : decode cX7_dunesAfter 57 = .ok (.istore 4, 2) := by decide +kernel
theorem dX7_dunesAfter_59 : decode cX7_dunesAfter 59 = .ok (.aload_n 0, 1) := by decide +kernel
theorem dX7_dunesAfter_60 : decode cX7_dunesAfter 60 = .ok (.invokevirtual 195, 3) := by decide +kernel
theorem dX7_dunesAfter_63 : decode cX7_dunesAfter 63 = .ok (.iload 4, 2) := by decide +kernel
theorem dX7_dunesAfter_65 : decode cX7_dunesAfter 65 = .ok (.ireturn, 1) := by decide +kernel
set_option maxRecDepth 20000 in
theorem ggX7_bestFence_X7_in : GoodIn wsX7_bestFence wsX7_in := goodIn_r _ [6] (by decide +kernel) (by decide +kernel)
set_option maxRecDepth 20000 in
theorem gX7_bestFence_X7_in : GoodIn wsX7_bestFence (va_wsS RX7 47 yX7_in wsX7_in) := goodIn_app (goodIn_of _ (by decide +kernel)) ggX7_bestFence_X7_in
set_option maxRecDepth 20000 in
theorem ggX7_bestFence_X7_goes : GoodIn wsX7_bestFence wsX7_goes := goodIn_r _ [10, 11, 102, 103, 104, 105, 106, 107, 108, 109, 110, 111, 112, 113, 114] (by decide +kernel) (by decide +kernel)
set_option maxRecDepth 20000 in
theorem gX7_bestFence_X7_goes : GoodIn wsX7_bestFence (wsV RX7 66 RX7 yX7_goes wsX7_goes) := goodIn_app (goodIn_of _ (by decide +kernel)) ggX7_bestFence_X7_goes
set_option maxRecDepth 20000 in
theorem ggX7_bestFence_X7_lays : GoodIn wsX7_bestFence wsX7_lays := goodIn_r _ [15, 16, 1, 102, 103, 104, 105, 106, 107, 108, 109, 110, 111, 112, 113, 114] (by decide +kernel) (by decide +kernel)
set_option maxRecDepth 20000 in
theorem gX7_bestFence_X7_lays : GoodIn wsX7_bestFence (wsV RX7 192 RX7 yX7_lays wsX7_lays) := goodIn_app (goodIn_of _ (by decide +kernel)) ggX7_bestFence_X7_lays
set_option maxRecDepth 20000 in
theorem ggX7_bestFence_X7_of : GoodIn wsX7_bestFence wsX7_of := goodIn_r _ [20, 1, 21, 22, 5, 23, 102, 103, 104, 105, 106, 107, 108, 109, 110, 111, 112, 113, 114] (by decide +kernel) (by decide +kernel)
set_option maxRecDepth 20000 in
theorem gX7_bestFence_X7_of : GoodIn wsX7_bestFence (wsV RX7 79 RX7 yX7_of wsX7_of) := goodIn_app (goodIn_of _ (by decide +kernel)) ggX7_bestFence_X7_of
set_option maxRecDepth 20000 in
theorem ggX7_bestFence_X7_fences : GoodIn wsX7_bestFence wsX7_fences := goodIn_r _ [27, 1, 21, 22, 5, 23, 102, 103, 104, 105, 106, 107, 108, 109, 110, 111, 112, 113, 114] (by decide +kernel) (by decide +kernel)
set_option maxRecDepth 20000 in
theorem gX7_bestFence_X7_fences : GoodIn wsX7_bestFence (wsV RX7 86 RX7 yX7_fences wsX7_fences) := goodIn_app (goodIn_of _ (by decide +kernel)) ggX7_bestFence_X7_fences
set_option maxRecDepth 20000 in
theorem ggX7_bestFence_X7_runs : GoodIn wsX7_bestFence wsX7_runs := goodIn_r _ [31, 32, 33, 34, 5, 35, 36, 37, 1, 38, 39, 40, 41, 42, 43, 44, 45, 46, 47, 48, 49, 50, 51, 52, 53, 17, 18, 19, 20, 21, 22, 23, 54, 55, 56, 57, 58, 59, 60, 61, 62, 63, 64, 65, 66, 67, 68, 69, 70, 71, 72, 73, 74, 75, 76, 77, 78, 79, 80, 81, 82, 83, 84, 85, 86, 87, 88, 89, 90, 91, 92, 93, 94, 95, 96, 97, 102, 103, 104, 105, 106, 107, 108, 109, 110, 111, 112, 113, 114] (by decide +kernel) (by decide +kernel)
set_option maxRecDepth 20000 in
theorem gX7_bestFence_X7_runs : GoodIn wsX7_bestFence (wsV RX7 165 RX7 yX7_runs wsX7_runs) := goodIn_app (goodIn_of _ (by decide +kernel)) ggX7_bestFence_X7_runs
set_option maxRecDepth 20000 in
theorem ggX7_bestFence_X7_takesBack : GoodIn wsX7_bestFence wsX7_takesBack := goodIn_r _ [101, 1, 16, 102, 103, 104, 105, 106, 107, 108, 109, 110, 111, 112, 113, 114] (by decide +kernel) (by decide +kernel)
set_option maxRecDepth 20000 in
theorem gX7_bestFence_X7_takesBack : GoodIn wsX7_bestFence (wsV RX7 195 RX7 yX7_takesBack wsX7_takesBack) := goodIn_app (goodIn_of _ (by decide +kernel)) ggX7_bestFence_X7_takesBack
theorem dX7_bestFence_0 : decode cX7_bestFence 0 = .ok (.aload_n 0, 1) := by decide +kernel
theorem dX7_bestFence_1 : decode cX7_bestFence 1 = .ok (.iload_n 1, 1) := by decide +kernel
theorem dX7_bestFence_2 : decode cX7_bestFence 2 = .ok (.i2l, 1) := by decide +kernel
theorem dX7_bestFence_3 : decode cX7_bestFence 3 = .ok (.lconst 0, 1) := by decide +kernel
theorem dX7_bestFence_4 : decode cX7_bestFence 4 = .ok (.aload_n 0, 1) := by decide +kernel
theorem dX7_bestFence_5 : decode cX7_bestFence 5 = .ok (.getfield 7, 3) := by decide +kernel
theorem dX7_bestFence_8 : decode cX7_bestFence 8 = .ok (.iconst 5, 1) := by decide +kernel
theorem dX7_bestFence_9 : decode cX7_bestFence 9 = .ok (.iaload, 1) := by decide +kernel
theorem dX7_bestFence_10 : decode cX7_bestFence 10 = .ok (.i2l, 1) := by decide +kernel
theorem dX7_bestFence_11 : decode cX7_bestFence 11 = .ok (.lconst 1, 1) := by decide +kernel
theorem dX7_bestFence_12 : decode cX7_bestFence 12 = .ok (.lsub, 1) := by decide +kernel
theorem dX7_bestFence_13 : decode cX7_bestFence 13 = .ok (.invokestatic 47, 3) := by decide +kernel
theorem dX7_bestFence_16 : decode cX7_bestFence 16 = .ok (.iload_n 2, 1) := by decide +kernel
theorem dX7_bestFence_17 : decode cX7_bestFence 17 = .ok (.i2l, 1) := by decide +kernel
theorem dX7_bestFence_18 : decode cX7_bestFence 18 = .ok (.lconst 0, 1) := by decide +kernel
theorem dX7_bestFence_19 : decode cX7_bestFence 19 = .ok (.ldc2_w 198, 3) := by decide +kernel
theorem dX7_bestFence_22 : decode cX7_bestFence 22 = .ok (.invokestatic 47, 3) := by decide +kernel
theorem dX7_bestFence_25 : decode cX7_bestFence 25 = .ok (.invokevirtual 66, 3) := by decide +kernel
theorem dX7_bestFence_28 : decode cX7_bestFence 28 = .ok (.ifCond .ne 5, 3) := by decide +kernel
theorem dX7_bestFence_31 : decode cX7_bestFence 31 = .ok (.iconst 0, 1) := by decide +kernel
theorem dX7_bestFence_32 : decode cX7_bestFence 32 = .ok (.ireturn, 1) := by decide +kernel
theorem dX7_bestFence_33 : decode cX7_bestFence 33 = .ok (.aload_n 0, 1) := by decide +kernel
theorem dX7_bestFence_34 : decode cX7_bestFence 34 = .ok (.invokevirtual 192, 3) := by decide +kernel
theorem dX7_bestFence_37 : decode cX7_bestFence 37 = .ok (.iconst (-1), 1) := by decide +kernel
theorem dX7_bestFence_38 : decode cX7_bestFence 38 = .ok (.istore_n 3, 1) := by decide +kernel
theorem dX7_bestFence_39 : decode cX7_bestFence 39 = .ok (.iconst (-1), 1) := by decide +kernel
theorem dX7_bestFence_40 : decode cX7_bestFence 40 = .ok (.istore 4, 2) := by decide +kernel
theorem dX7_bestFence_42 : decode cX7_bestFence 42 = .ok (.iconst 0, 1) := by decide +kernel
theorem dX7_bestFence_43 : decode cX7_bestFence 43 = .ok (.istore 5, 2) := by decide +kernel
theorem dX7_bestFence_45 : decode cX7_bestFence 45 = .ok (.iload 5, 2) := by decide +kernel
theorem dX7_bestFence_47 : decode cX7_bestFence 47 = .ok (.aload_n 0, 1) := by decide +kernel
theorem dX7_bestFence_48 : decode cX7_bestFence 48 = .ok (.getfield 7, 3) := by decide +kernel
theorem dX7_bestFence_51 : decode cX7_bestFence 51 = .ok (.iconst 4, 1) := by decide +kernel
theorem dX7_bestFence_52 : decode cX7_bestFence 52 = .ok (.iaload, 1) := by decide +kernel
theorem dX7_bestFence_53 : decode cX7_bestFence 53 = .ok (.if_icmp .ge 100, 3) := by decide +kernel
theorem dX7_bestFence_56 : decode cX7_bestFence 56 = .ok (.iload 5, 2) := by decide +kernel
theorem dX7_bestFence_58 : decode cX7_bestFence 58 = .ok (.aload_n 0, 1) := by decide +kernel
theorem dX7_bestFence_59 : decode cX7_bestFence 59 = .ok (.getfield 7, 3) := by decide +kernel
theorem dX7_bestFence_62 : decode cX7_bestFence 62 = .ok (.iconst 5, 1) := by decide +kernel
theorem dX7_bestFence_63 : decode cX7_bestFence 63 = .ok (.iaload, 1) := by decide +kernel
theorem dX7_bestFence_64 : decode cX7_bestFence 64 = .ok (.imul, 1) := by decide +kernel
theorem dX7_bestFence_65 : decode cX7_bestFence 65 = .ok (.iload_n 1, 1) := by decide +kernel
theorem dX7_bestFence_66 : decode cX7_bestFence 66 = .ok (.iadd, 1) := by decide +kernel
theorem dX7_bestFence_67 : decode cX7_bestFence 67 = .ok (.istore 6, 2) := by decide +kernel
theorem dX7_bestFence_69 : decode cX7_bestFence 69 = .ok (.aload_n 0, 1) := by decide +kernel
theorem dX7_bestFence_70 : decode cX7_bestFence 70 = .ok (.iload 6, 2) := by decide +kernel
theorem dX7_bestFence_72 : decode cX7_bestFence 72 = .ok (.iconst 2, 1) := by decide +kernel
theorem dX7_bestFence_73 : decode cX7_bestFence 73 = .ok (.invokevirtual 79, 3) := by decide +kernel
theorem dX7_bestFence_76 : decode cX7_bestFence 76 = .ok (.iconst (-1), 1) := by decide +kernel
theorem dX7_bestFence_77 : decode cX7_bestFence 77 = .ok (.if_icmp .ne 70, 3) := by decide +kernel
theorem dX7_bestFence_80 : decode cX7_bestFence 80 = .ok (.aload_n 0, 1) := by decide +kernel
theorem dX7_bestFence_81 : decode cX7_bestFence 81 = .ok (.iload 6, 2) := by decide +kernel
theorem dX7_bestFence_83 : decode cX7_bestFence 83 = .ok (.bipush 50, 2) := by decide +kernel
theorem dX7_bestFence_85 : decode cX7_bestFence 85 = .ok (.invokevirtual 86, 3) := by decide +kernel
theorem dX7_bestFence_88 : decode cX7_bestFence 88 = .ok (.aload_n 0, 1) := by decide +kernel
theorem dX7_bestFence_89 : decode cX7_bestFence 89 = .ok (.iload_n 2, 1) := by decide +kernel
theorem dX7_bestFence_90 : decode cX7_bestFence 90 = .ok (.invokevirtual 165, 3) := by decide +kernel
theorem dX7_bestFence_93 : decode cX7_bestFence 93 = .ok (.istore 7, 2) := by decide +kernel
theorem dX7_bestFence_95 : decode cX7_bestFence 95 = .ok (.iload 7, 2) := by decide +kernel
theorem dX7_bestFence_97 : decode cX7_bestFence 97 = .ok (.ifCond .ge 7, 3) := by decide +kernel
theorem dX7_bestFence_100 : decode cX7_bestFence 100 = .ok (.iconst 0, 1) := by decide +kernel
theorem dX7_bestFence_101 : decode cX7_bestFence 101 = .ok (.goto 10, 3) := by decide +kernel
theorem dX7_bestFence_104 : decode cX7_bestFence 104 = .ok (.aload_n 0, 1) := by decide +kernel
theorem dX7_bestFence_105 : decode cX7_bestFence 105 = .ok (.iload 6, 2) := by decide +kernel
theorem dX7_bestFence_107 : decode cX7_bestFence 107 = .ok (.iconst 3, 1) := by decide +kernel
theorem dX7_bestFence_108 : decode cX7_bestFence 108 = .ok (.invokevirtual 79, 3) := by decide +kernel
theorem dX7_bestFence_111 : decode cX7_bestFence 111 = .ok (.istore 8, 2) := by decide +kernel
theorem dX7_bestFence_113 : decode cX7_bestFence 113 = .ok (.aload_n 0, 1) := by decide +kernel
theorem dX7_bestFence_114 : decode cX7_bestFence 114 = .ok (.invokevirtual 195, 3) := by decide +kernel
theorem dX7_bestFence_117 : decode cX7_bestFence 117 = .ok (.iload 8, 2) := by decide +kernel
theorem dX7_bestFence_119 : decode cX7_bestFence 119 = .ok (.iload 4, 2) := by decide +kernel
theorem dX7_bestFence_121 : decode cX7_bestFence 121 = .ok (.if_icmp .le 8, 3) := by decide +kernel
theorem dX7_bestFence_124 : decode cX7_bestFence 124 = .ok (.iload 5, 2) := by decide +kernel
theorem dX7_bestFence_126 : decode cX7_bestFence 126 = .ok (.goto 4, 3) := by decide +kernel
theorem dX7_bestFence_129 : decode cX7_bestFence 129 = .ok (.iload_n 3, 1) := by decide +kernel
theorem dX7_bestFence_130 : decode cX7_bestFence 130 = .ok (.istore_n 3, 1) := by decide +kernel
theorem dX7_bestFence_131 : decode cX7_bestFence 131 = .ok (.iload 8, 2) := by decide +kernel
theorem dX7_bestFence_133 : decode cX7_bestFence 133 = .ok (.iload 4, 2) := by decide +kernel
theorem dX7_bestFence_135 : decode cX7_bestFence 135 = .ok (.if_icmp .le 8, 3) := by decide +kernel
theorem dX7_bestFence_138 : decode cX7_bestFence 138 = .ok (.iload 8, 2) := by decide +kernel
theorem dX7_bestFence_140 : decode cX7_bestFence 140 = .ok (.goto 5, 3) := by decide +kernel
theorem dX7_bestFence_143 : decode cX7_bestFence 143 = .ok (.iload 4, 2) := by decide +kernel
theorem dX7_bestFence_145 : decode cX7_bestFence 145 = .ok (.istore 4, 2) := by decide +kernel
theorem dX7_bestFence_147 : decode cX7_bestFence 147 = .ok (.iinc 5 1, 3) := by decide +kernel
theorem dX7_bestFence_150 : decode cX7_bestFence 150 = .ok (.goto (-105), 3) := by decide +kernel
theorem dX7_bestFence_153 : decode cX7_bestFence 153 = .ok (.iload_n 3, 1) := by decide +kernel
theorem dX7_bestFence_154 : decode cX7_bestFence 154 = .ok (.ireturn, 1) := by decide +kernel
set_option maxRecDepth 20000 in
theorem ggX7_liveliestWind_X7_in : GoodIn wsX7_liveliestWind wsX7_in := goodIn_r _ [6] (by decide +kernel) (by decide +kernel)
set_option maxRecDepth 20000 in
theorem gX7_liveliestWind_X7_in : GoodIn wsX7_liveliestWind (va_wsS RX7 47 yX7_in wsX7_in) := goodIn_app (goodIn_of _ (by decide +kernel)) ggX7_liveliestWind_X7_in
set_option maxRecDepth 20000 in
theorem ggX7_liveliestWind_X7_goes : GoodIn wsX7_liveliestWind wsX7_goes := goodIn_r _ [10, 11, 98, 99, 100, 101, 102, 103, 104, 105, 106, 107, 108, 109, 110] (by decide +kernel) (by decide +kernel)
set_option maxRecDepth 20000 in
theorem gX7_liveliestWind_X7_goes : GoodIn wsX7_liveliestWind (wsV RX7 66 RX7 yX7_goes wsX7_goes) := goodIn_app (goodIn_of _ (by decide +kernel)) ggX7_liveliestWind_X7_goes
set_option maxRecDepth 20000 in
theorem ggX7_liveliestWind_X7_lays : GoodIn wsX7_liveliestWind wsX7_lays := goodIn_r _ [15, 16, 2, 98, 99, 100, 101, 102, 103, 104, 105, 106, 107, 108, 109, 110] (by decide +kernel) (by decide +kernel)
set_option maxRecDepth 20000 in
theorem gX7_liveliestWind_X7_lays : GoodIn wsX7_liveliestWind (wsV RX7 192 RX7 yX7_lays wsX7_lays) := goodIn_app (goodIn_of _ (by decide +kernel)) ggX7_liveliestWind_X7_lays
set_option maxRecDepth 20000 in
theorem ggX7_liveliestWind_X7_runs : GoodIn wsX7_liveliestWind wsX7_runs := goodIn_r _ [20, 21, 22, 23, 5, 24, 25, 26, 2, 27, 28, 29, 30, 31, 32, 33, 34, 35, 36, 37, 38, 39, 40, 41, 42, 43, 44, 45, 46, 47, 48, 49, 50, 51, 52, 53, 54, 55, 56, 57, 58, 59, 60, 61, 62, 63, 64, 65, 66, 67, 68, 69, 70, 71, 72, 73, 74, 75, 76, 77, 78, 79, 80, 81, 82, 83, 84, 85, 86, 87, 88, 89, 90, 91, 92, 93, 98, 99, 100, 101, 102, 103, 104, 105, 106, 107, 108, 109, 110] (by decide +kernel) (by decide +kernel)
set_option maxRecDepth 20000 in
theorem gX7_liveliestWind_X7_runs : GoodIn wsX7_liveliestWind (wsV RX7 165 RX7 yX7_runs wsX7_runs) := goodIn_app (goodIn_of _ (by decide +kernel)) ggX7_liveliestWind_X7_runs
set_option maxRecDepth 20000 in
theorem ggX7_liveliestWind_X7_takesBack : GoodIn wsX7_liveliestWind wsX7_takesBack := goodIn_r _ [97, 2, 16, 98, 99, 100, 101, 102, 103, 104, 105, 106, 107, 108, 109, 110] (by decide +kernel) (by decide +kernel)
set_option maxRecDepth 20000 in
theorem gX7_liveliestWind_X7_takesBack : GoodIn wsX7_liveliestWind (wsV RX7 195 RX7 yX7_takesBack wsX7_takesBack) := goodIn_app (goodIn_of _ (by decide +kernel)) ggX7_liveliestWind_X7_takesBack
theorem dX7_liveliestWind_0 : decode cX7_liveliestWind 0 = .ok (.aload_n 0, 1) := by decide +kernel
theorem dX7_liveliestWind_1 : decode cX7_liveliestWind 1 = .ok (.iload_n 1, 1) := by decide +kernel
theorem dX7_liveliestWind_2 : decode cX7_liveliestWind 2 = .ok (.i2l, 1) := by decide +kernel
theorem dX7_liveliestWind_3 : decode cX7_liveliestWind 3 = .ok (.lconst 0, 1) := by decide +kernel
theorem dX7_liveliestWind_4 : decode cX7_liveliestWind 4 = .ok (.ldc2_w 198, 3) := by decide +kernel
theorem dX7_liveliestWind_7 : decode cX7_liveliestWind 7 = .ok (.invokestatic 47, 3) := by decide +kernel
theorem dX7_liveliestWind_10 : decode cX7_liveliestWind 10 = .ok (.iconst 1, 1) := by decide +kernel
theorem dX7_liveliestWind_11 : decode cX7_liveliestWind 11 = .ok (.invokevirtual 66, 3) := by decide +kernel
theorem dX7_liveliestWind_14 : decode cX7_liveliestWind 14 = .ok (.ifCond .ne 5, 3) := by decide +kernel
theorem dX7_liveliestWind_17 : decode cX7_liveliestWind 17 = .ok (.iconst 0, 1) := by decide +kernel
theorem dX7_liveliestWind_18 : decode cX7_liveliestWind 18 = .ok (.ireturn, 1) := by decide +kernel
theorem dX7_liveliestWind_19 : decode cX7_liveliestWind 19 = .ok (.aload_n 0, 1) := by decide +kernel
theorem dX7_liveliestWind_20 : decode cX7_liveliestWind 20 = .ok (.invokevirtual 192, 3) := by decide +kernel
theorem dX7_liveliestWind_23 : decode cX7_liveliestWind 23 = .ok (.iconst 0, 1) := by decide +kernel
theorem dX7_liveliestWind_24 : decode cX7_liveliestWind 24 = .ok (.istore_n 2, 1) := by decide +kernel
theorem dX7_liveliestWind_25 : decode cX7_liveliestWind 25 = .ok (.iconst (-1), 1) := by decide +kernel
theorem dX7_liveliestWind_26 : decode cX7_liveliestWind 26 = .ok (.istore_n 3, 1) := by decide +kernel
theorem dX7_liveliestWind_27 : decode cX7_liveliestWind 27 = .ok (.iconst 0, 1) := by decide +kernel
theorem dX7_liveliestWind_28 : decode cX7_liveliestWind 28 = .ok (.istore 4, 2) := by decide +kernel
theorem dX7_liveliestWind_30 : decode cX7_liveliestWind 30 = .ok (.iload 4, 2) := by decide +kernel
theorem dX7_liveliestWind_32 : decode cX7_liveliestWind 32 = .ok (.iconst 4, 1) := by decide +kernel
theorem dX7_liveliestWind_33 : decode cX7_liveliestWind 33 = .ok (.if_icmp .ge 55, 3) := by decide +kernel
theorem dX7_liveliestWind_36 : decode cX7_liveliestWind 36 = .ok (.aload_n 0, 1) := by decide +kernel
theorem dX7_liveliestWind_37 : decode cX7_liveliestWind 37 = .ok (.getfield 7, 3) := by decide +kernel
theorem dX7_liveliestWind_40 : decode cX7_liveliestWind 40 = .ok (.bipush 6, 2) := by decide +kernel
theorem dX7_liveliestWind_42 : decode cX7_liveliestWind 42 = .ok (.iload 4, 2) := by decide +kernel
theorem dX7_liveliestWind_44 : decode cX7_liveliestWind 44 = .ok (.iastore, 1) := by decide +kernel
theorem dX7_liveliestWind_45 : decode cX7_liveliestWind 45 = .ok (.aload_n 0, 1) := by decide +kernel
theorem dX7_liveliestWind_46 : decode cX7_liveliestWind 46 = .ok (.iload_n 1, 1) := by decide +kernel
theorem dX7_liveliestWind_47 : decode cX7_liveliestWind 47 = .ok (.invokevirtual 165, 3) := by decide +kernel
theorem dX7_liveliestWind_50 : decode cX7_liveliestWind 50 = .ok (.istore 5, 2) := by decide +kernel
theorem dX7_liveliestWind_52 : decode cX7_liveliestWind 52 = .ok (.aload_n 0, 1) := by decide +kernel
theorem dX7_liveliestWind_53 : decode cX7_liveliestWind 53 = .ok (.invokevirtual 195, 3) := by decide +kernel
theorem dX7_liveliestWind_56 : decode cX7_liveliestWind 56 = .ok (.iload 5, 2) := by decide +kernel
theorem dX7_liveliestWind_58 : decode cX7_liveliestWind 58 = .ok (.iload_n 3, 1) := by decide +kernel
theorem dX7_liveliestWind_59 : decode cX7_liveliestWind 59 = .ok (.if_icmp .le 8, 3) := by decide +kernel
theorem dX7_liveliestWind_62 : decode cX7_liveliestWind 62 = .ok (.iload 4, 2) := by decide +kernel
theorem dX7_liveliestWind_64 : decode cX7_liveliestWind 64 = .ok (.goto 4, 3) := by decide +kernel
theorem dX7_liveliestWind_67 : decode cX7_liveliestWind 67 = .ok (.iload_n 2, 1) := by decide +kernel
theorem dX7_liveliestWind_68 : decode cX7_liveliestWind 68 = .ok (.istore_n 2, 1) := by decide +kernel
theorem dX7_liveliestWind_69 : decode cX7_liveliestWind 69 = .ok (.iload 5, 2) := by decide +kernel
theorem dX7_liveliestWind_71 : decode cX7_liveliestWind 71 = .ok (.iload_n 3, 1) := by decide +kernel
theorem dX7_liveliestWind_72 : decode cX7_liveliestWind 72 = .ok (.if_icmp .le 8, 3) := by decide +kernel
theorem dX7_liveliestWind_75 : decode cX7_liveliestWind 75 = .ok (.iload 5, 2) := by decide +kernel
theorem dX7_liveliestWind_77 : decode cX7_liveliestWind 77 = .ok (.goto 4, 3) := by decide +kernel
theorem dX7_liveliestWind_80 : decode cX7_liveliestWind 80 = .ok (.iload_n 3, 1) := by decide +kernel
theorem dX7_liveliestWind_81 : decode cX7_liveliestWind 81 = .ok (.istore_n 3, 1) := by decide +kernel
theorem dX7_liveliestWind_82 : decode cX7_liveliestWind 82 = .ok (.iinc 4 1, 3) := by decide +kernel
theorem dX7_liveliestWind_85 : decode cX7_liveliestWind 85 = .ok (.goto (-55), 3) := by decide +kernel
theorem dX7_liveliestWind_88 : decode cX7_liveliestWind 88 = .ok (.iload_n 2, 1) := by decide +kernel
theorem dX7_liveliestWind_89 : decode cX7_liveliestWind 89 = .ok (.ireturn, 1) := by decide +kernel
set_option maxRecDepth 20000 in
theorem ggX7_append_X7_in : GoodIn wsX7_append wsX7_in := goodIn_r _ [7] (by decide +kernel) (by decide +kernel)
set_option maxRecDepth 20000 in
theorem gX7_append_X7_in : GoodIn wsX7_append (va_wsS RX7 47 yX7_in wsX7_in) := goodIn_app (goodIn_of _ (by decide +kernel)) ggX7_append_X7_in
set_option maxRecDepth 20000 in
theorem ggX7_append_X7_goes : GoodIn wsX7_append wsX7_goes := goodIn_r _ [11, 12, 13, 14, 15, 16, 17, 18, 19, 20, 21, 22, 23, 24, 25] (by decide +kernel) (by decide +kernel)
set_option maxRecDepth 20000 in
theorem gX7_append_X7_goes : GoodIn wsX7_append (wsV RX7 66 RX7 yX7_goes wsX7_goes) := goodIn_app (goodIn_of _ (by decide +kernel)) ggX7_append_X7_goes
theorem dX7_append_0 : decode cX7_append 0 = .ok (.aload_n 0, 1) := by decide +kernel
theorem dX7_append_1 : decode cX7_append 1 = .ok (.iload_n 1, 1) := by decide +kernel
theorem dX7_append_2 : decode cX7_append 2 = .ok (.i2l, 1) := by decide +kernel
theorem dX7_append_3 : decode cX7_append 3 = .ok (.lconst 0, 1) := by decide +kernel
theorem dX7_append_4 : decode cX7_append 4 = .ok (.ldc2_w 200, 3) := by decide +kernel
theorem dX7_append_7 : decode cX7_append 7 = .ok (.invokestatic 47, 3) := by decide +kernel
theorem dX7_append_10 : decode cX7_append 10 = .ok (.aload_n 0, 1) := by decide +kernel
theorem dX7_append_11 : decode cX7_append 11 = .ok (.getfield 202, 3) := by decide +kernel
theorem dX7_append_14 : decode cX7_append 14 = .ok (.sipush 220, 3) := by decide +kernel
theorem dX7_append_17 : decode cX7_append 17 = .ok (.if_icmp .ge 7, 3) := by decide +kernel
theorem dX7_append_20 : decode cX7_append 20 = .ok (.iconst 1, 1) := by decide +kernel
theorem dX7_append_21 : decode cX7_append 21 = .ok (.goto 4, 3) := by decide +kernel
theorem dX7_append_24 : decode cX7_append 24 = .ok (.iconst 0, 1) := by decide +kernel
theorem dX7_append_25 : decode cX7_append 25 = .ok (.invokevirtual 66, 3) := by decide +kernel
theorem dX7_append_28 : decode cX7_append 28 = .ok (.ifCond .ne 5, 3) := by decide +kernel
theorem dX7_append_31 : decode cX7_append 31 = .ok (.iconst 0, 1) := by decide +kernel
theorem dX7_append_32 : decode cX7_append 32 = .ok (.ireturn, 1) := by decide +kernel
theorem dX7_append_33 : decode cX7_append 33 = .ok (.aload_n 0, 1) := by decide +kernel
theorem dX7_append_34 : decode cX7_append 34 = .ok (.getfield 25, 3) := by decide +kernel
theorem dX7_append_37 : decode cX7_append 37 = .ok (.aload_n 0, 1) := by decide +kernel
theorem dX7_append_38 : decode cX7_append 38 = .ok (.getfield 202, 3) := by decide +kernel
theorem dX7_append_41 : decode cX7_append 41 = .ok (.iload_n 1, 1) := by decide +kernel
theorem dX7_append_42 : decode cX7_append 42 = .ok (.iastore, 1) := by decide +kernel
theorem dX7_append_43 : decode cX7_append 43 = .ok (.aload_n 0, 1) := by decide +kernel
theorem dX7_append_44 : decode cX7_append 44 = .ok (.dup, 1) := by decide +kernel
theorem dX7_append_45 : decode cX7_append 45 = .ok (.getfield 202, 3) := by decide +kernel
theorem dX7_append_48 : decode cX7_append 48 = .ok (.iconst 1, 1) := by decide +kernel
theorem dX7_append_49 : decode cX7_append 49 = .ok (.iadd, 1) := by decide +kernel
theorem dX7_append_50 : decode cX7_append 50 = .ok (.putfield 202, 3) := by decide +kernel
theorem dX7_append_53 : decode cX7_append 53 = .ok (.aload_n 0, 1) := by decide +kernel
theorem dX7_append_54 : decode cX7_append 54 = .ok (.getfield 202, 3) := by decide +kernel
theorem dX7_append_57 : decode cX7_append 57 = .ok (.ireturn, 1) := by decide +kernel
theorem dX7_clearText_0 : decode cX7_clearText 0 = .ok (.aload_n 0, 1) := by decide +kernel
theorem dX7_clearText_1 : decode cX7_clearText 1 = .ok (.iconst 0, 1) := by decide +kernel
theorem dX7_clearText_2 : decode cX7_clearText 2 = .ok (.putfield 32, 3) := by decide +kernel
theorem dX7_clearText_5 : decode cX7_clearText 5 = .ok (.aload_n 0, 1) := by decide +kernel
theorem dX7_clearText_6 : decode cX7_clearText 6 = .ok (.getfield 202, 3) := by decide +kernel
theorem dX7_clearText_9 : decode cX7_clearText 9 = .ok (.istore_n 1, 1) := by decide +kernel
theorem dX7_clearText_10 : decode cX7_clearText 10 = .ok (.aload_n 0, 1) := by decide +kernel
theorem dX7_clearText_11 : decode cX7_clearText 11 = .ok (.iconst 0, 1) := by decide +kernel
theorem dX7_clearText_12 : decode cX7_clearText 12 = .ok (.putfield 202, 3) := by decide +kernel
theorem dX7_clearText_15 : decode cX7_clearText 15 = .ok (.iload_n 1, 1) := by decide +kernel
theorem dX7_clearText_16 : decode cX7_clearText 16 = .ok (.ireturn, 1) := by decide +kernel
set_option maxRecDepth 20000 in
theorem ggX7_faultOf_X7_in : GoodIn wsX7_faultOf wsX7_in := goodIn_r _ [10] (by decide +kernel) (by decide +kernel)
set_option maxRecDepth 20000 in
theorem gX7_faultOf_X7_in : GoodIn wsX7_faultOf (va_wsS RX7 47 yX7_in wsX7_in) := goodIn_app (goodIn_of _ (by decide +kernel)) ggX7_faultOf_X7_in
theorem dX7_faultOf_0 : decode cX7_faultOf 0 = .ok (.aload_n 0, 1) := by decide +kernel
theorem dX7_faultOf_1 : decode cX7_faultOf 1 = .ok (.iconst 0, 1) := by decide +kernel
theorem dX7_faultOf_2 : decode cX7_faultOf 2 = .ok (.putfield 205, 3) := by decide +kernel
theorem dX7_faultOf_5 : decode cX7_faultOf 5 = .ok (.aload_n 0, 1) := by decide +kernel
theorem dX7_faultOf_6 : decode cX7_faultOf 6 = .ok (.iconst 0, 1) := by decide +kernel
theorem dX7_faultOf_7 : decode cX7_faultOf 7 = .ok (.putfield 208, 3) := by decide +kernel
theorem dX7_faultOf_10 : decode cX7_faultOf 10 = .ok (.iconst 0, 1) := by decide +kernel
theorem dX7_faultOf_11 : decode cX7_faultOf 11 = .ok (.istore_n 1, 1) := by decide +kernel
theorem dX7_faultOf_12 : decode cX7_faultOf 12 = .ok (.iconst 0, 1) := by decide +kernel
theorem dX7_faultOf_13 : decode cX7_faultOf 13 = .ok (.istore_n 2, 1) := by decide +kernel
theorem dX7_faultOf_14 : decode cX7_faultOf 14 = .ok (.iload_n 2, 1) := by decide +kernel
theorem dX7_faultOf_15 : decode cX7_faultOf 15 = .ok (.aload_n 0, 1) := by decide +kernel
theorem dX7_faultOf_16 : decode cX7_faultOf 16 = .ok (.getfield 202, 3) := by decide +kernel
theorem dX7_faultOf_19 : decode cX7_faultOf 19 = .ok (.if_icmp .ge 142, 3) := by decide +kernel
theorem dX7_faultOf_22 : decode cX7_faultOf 22 = .ok (.aload_n 0, 1) := by decide +kernel
theorem dX7_faultOf_23 : decode cX7_faultOf 23 = .ok (.getfield 205, 3) := by decide +kernel
theorem dX7_faultOf_26 : decode cX7_faultOf 26 = .ok (.ifCond .ne 7, 3) := by decide +kernel
theorem dX7_faultOf_29 : decode cX7_faultOf 29 = .ok (.iconst 1, 1) := by decide +kernel
theorem dX7_faultOf_30 : decode cX7_faultOf 30 = .ok (.goto 4, 3) := by decide +kernel
theorem dX7_faultOf_33 : decode cX7_faultOf 33 = .ok (.iconst 0, 1) := by decide +kernel
theorem dX7_faultOf_34 : decode cX7_faultOf 34 = .ok (.istore_n 3, 1) := by decide +kernel
theorem dX7_faultOf_35 : decode cX7_faultOf 35 = .ok (.aload_n 0, 1) := by decide +kernel
theorem dX7_faultOf_36 : decode cX7_faultOf 36 = .ok (.getfield 25, 3) := by decide +kernel
theorem dX7_faultOf_39 : decode cX7_faultOf 39 = .ok (.iload_n 2, 1) := by decide +kernel
theorem dX7_faultOf_40 : decode cX7_faultOf 40 = .ok (.iaload, 1) := by decide +kernel
theorem dX7_faultOf_41 : decode cX7_faultOf 41 = .ok (.i2l, 1) := by decide +kernel
theorem dX7_faultOf_42 : decode cX7_faultOf 42 = .ok (.ldc2_w 211, 3) := by decide +kernel
theorem dX7_faultOf_45 : decode cX7_faultOf 45 = .ok (.ldc2_w 213, 3) := by decide +kernel
theorem dX7_faultOf_48 : decode cX7_faultOf 48 = .ok (.invokestatic 47, 3) := by decide +kernel
theorem dX7_faultOf_51 : decode cX7_faultOf 51 = .ok (.ifCond .eq 28, 3) := by decide +kernel
theorem dX7_faultOf_54 : decode cX7_faultOf 54 = .ok (.iload_n 1, 1) := by decide +kernel
theorem dX7_faultOf_55 : decode cX7_faultOf 55 = .ok (.iload_n 3, 1) := by decide +kernel
theorem dX7_faultOf_56 : decode cX7_faultOf 56 = .ok (.ifCond .eq 8, 3) := by decide +kernel
theorem dX7_faultOf_59 : decode cX7_faultOf 59 = .ok (.bipush 16, 2) := by decide +kernel
theorem dX7_faultOf_61 : decode cX7_faultOf 61 = .ok (.goto 7, 3) := by decide +kernel
theorem dX7_faultOf_64 : decode cX7_faultOf 64 = .ok (.aload_n 0, 1) := by decide +kernel
theorem dX7_faultOf_65 : decode cX7_faultOf 65 = .ok (.getfield 208, 3) := by decide +kernel
theorem dX7_faultOf_68 : decode cX7_faultOf 68 = .ok (.if_icmp .ne 5, 3) := by decide +kernel
theorem dX7_faultOf_71 : decode cX7_faultOf 71 = .ok (.iload_n 2, 1) := by decide +kernel
theorem dX7_faultOf_72 : decode cX7_faultOf 72 = .ok (.ireturn, 1) := by decide +kernel
theorem dX7_faultOf_73 : decode cX7_faultOf 73 = .ok (.iinc 1 1, 3) := by decide +kernel
theorem dX7_faultOf_76 : decode cX7_faultOf 76 = .ok (.goto 79, 3) := by decide +kernel
theorem dX7_faultOf_79 : decode cX7_faultOf 79 = .ok (.iload_n 3, 1) := by decide +kernel
theorem dX7_faultOf_80 : decode cX7_faultOf 80 = .ok (.ifCond .eq 16, 3) := by decide +kernel
theorem dX7_faultOf_83 : decode cX7_faultOf 83 = .ok (.iload_n 1, 1) := by decide +kernel
theorem dX7_faultOf_84 : decode cX7_faultOf 84 = .ok (.iconst 3, 1) := by decide +kernel
theorem dX7_faultOf_85 : decode cX7_faultOf 85 = .ok (.if_icmp .lt 7, 3) := by decide +kernel
theorem dX7_faultOf_88 : decode cX7_faultOf 88 = .ok (.iconst 1, 1) := by decide +kernel
theorem dX7_faultOf_89 : decode cX7_faultOf 89 = .ok (.goto 20, 3) := by decide +kernel
theorem dX7_faultOf_92 : decode cX7_faultOf 92 = .ok (.iconst 0, 1) := by decide +kernel
theorem dX7_faultOf_93 : decode cX7_faultOf 93 = .ok (.goto 16, 3) := by decide +kernel
theorem dX7_faultOf_96 : decode cX7_faultOf 96 = .ok (.iload_n 1, 1) := by decide +kernel
theorem dX7_faultOf_97 : decode cX7_faultOf 97 = .ok (.aload_n 0, 1) := by decide +kernel
theorem dX7_faultOf_98 : decode cX7_faultOf 98 = .ok (.getfield 208, 3) := by decide +kernel
theorem dX7_faultOf_101 : decode cX7_faultOf 101 = .ok (.if_icmp .ne 7, 3) := by decide +kernel
theorem dX7_faultOf_104 : decode cX7_faultOf 104 = .ok (.iconst 1, 1) := by decide +kernel
theorem dX7_faultOf_105 : decode cX7_faultOf 105 = .ok (.goto 4, 3) := by decide +kernel
theorem dX7_faultOf_108 : decode cX7_faultOf 108 = .ok (.iconst 0, 1) := by decide +kernel
theorem dX7_faultOf_109 : decode cX7_faultOf 109 = .ok (.istore 4, 2) := by decide +kernel
theorem dX7_faultOf_111 : decode cX7_faultOf 111 = .ok (.aload_n 0, 1) := by decide +kernel
theorem dX7_faultOf_112 : decode cX7_faultOf 112 = .ok (.getfield 25, 3) := by decide +kernel
theorem dX7_faultOf_115 : decode cX7_faultOf 115 = .ok (.iload_n 2, 1) := by decide +kernel
theorem dX7_faultOf_116 : decode cX7_faultOf 116 = .ok (.iaload, 1) := by decide +kernel
theorem dX7_faultOf_117 : decode cX7_faultOf 117 = .ok (.bipush 47, 2) := by decide +kernel
theorem dX7_faultOf_119 : decode cX7_faultOf 119 = .ok (.if_icmp .ne 17, 3) := by decide +kernel
theorem dX7_faultOf_122 : decode cX7_faultOf 122 = .ok (.iload 4, 2) := by decide +kernel
theorem dX7_faultOf_124 : decode cX7_faultOf 124 = .ok (.ifCond .eq 12, 3) := by decide +kernel
theorem dX7_faultOf_127 : decode cX7_faultOf 127 = .ok (.aload_n 0, 1) := by decide +kernel
theorem dX7_faultOf_128 : decode cX7_faultOf 128 = .ok (.getfield 205, 3) := by decide +kernel
theorem dX7_faultOf_131 : decode cX7_faultOf 131 = .ok (.bipush 11, 2) := by decide +kernel
theorem dX7_faultOf_133 : decode cX7_faultOf 133 = .ok (.if_icmp .ne 5, 3) := by decide +kernel
theorem dX7_faultOf_136 : decode cX7_faultOf 136 = .ok (.iload_n 2, 1) := by decide +kernel
theorem dX7_faultOf_137 : decode cX7_faultOf 137 = .ok (.ireturn, 1) := by decide +kernel
theorem dX7_faultOf_138 : decode cX7_faultOf 138 = .ok (.aload_n 0, 1) := by decide +kernel
theorem dX7_faultOf_139 : decode cX7_faultOf 139 = .ok (.iload_n 1, 1) := by decide +kernel
theorem dX7_faultOf_140 : decode cX7_faultOf 140 = .ok (.putfield 208, 3) := by decide +kernel
theorem dX7_faultOf_143 : decode cX7_faultOf 143 = .ok (.aload_n 0, 1) := by decide +kernel
theorem dX7_faultOf_144 : decode cX7_faultOf 144 = .ok (.dup, 1) := by decide +kernel
theorem dX7_faultOf_145 : decode cX7_faultOf 145 = .ok (.getfield 205, 3) := by decide +kernel
theorem dX7_faultOf_148 : decode cX7_faultOf 148 = .ok (.iconst 1, 1) := by decide +kernel
theorem dX7_faultOf_149 : decode cX7_faultOf 149 = .ok (.iadd, 1) := by decide +kernel
theorem dX7_faultOf_150 : decode cX7_faultOf 150 = .ok (.putfield 205, 3) := by decide +kernel
theorem dX7_faultOf_153 : decode cX7_faultOf 153 = .ok (.iconst 0, 1) := by decide +kernel
theorem dX7_faultOf_154 : decode cX7_faultOf 154 = .ok (.istore_n 1, 1) := by decide +kernel
theorem dX7_faultOf_155 : decode cX7_faultOf 155 = .ok (.iinc 2 1, 3) := by decide +kernel
theorem dX7_faultOf_158 : decode cX7_faultOf 158 = .ok (.goto (-144), 3) := by decide +kernel
theorem dX7_faultOf_161 : decode cX7_faultOf 161 = .ok (.aload_n 0, 1) := by decide +kernel
theorem dX7_faultOf_162 : decode cX7_faultOf 162 = .ok (.getfield 205, 3) := by decide +kernel
theorem dX7_faultOf_165 : decode cX7_faultOf 165 = .ok (.iconst 2, 1) := by decide +kernel
theorem dX7_faultOf_166 : decode cX7_faultOf 166 = .ok (.if_icmp .lt 15, 3) := by decide +kernel
theorem dX7_faultOf_169 : decode cX7_faultOf 169 = .ok (.iload_n 1, 1) := by decide +kernel
theorem dX7_faultOf_170 : decode cX7_faultOf 170 = .ok (.aload_n 0, 1) := by decide +kernel
theorem dX7_faultOf_171 : decode cX7_faultOf 171 = .ok (.getfield 208, 3) := by decide +kernel
theorem dX7_faultOf_174 : decode cX7_faultOf 174 = .ok (.if_icmp .ne 7, 3) := by decide +kernel
theorem dX7_faultOf_177 : decode cX7_faultOf 177 = .ok (.iconst 1, 1) := by decide +kernel
theorem dX7_faultOf_178 : decode cX7_faultOf 178 = .ok (.goto 4, 3) := by decide +kernel
theorem dX7_faultOf_181 : decode cX7_faultOf 181 = .ok (.iconst 0, 1) := by decide +kernel
theorem dX7_faultOf_182 : decode cX7_faultOf 182 = .ok (.istore_n 2, 1) := by decide +kernel
theorem dX7_faultOf_183 : decode cX7_faultOf 183 = .ok (.aload_n 0, 1) := by decide +kernel
theorem dX7_faultOf_184 : decode cX7_faultOf 184 = .ok (.dup, 1) := by decide +kernel
theorem dX7_faultOf_185 : decode cX7_faultOf 185 = .ok (.getfield 205, 3) := by decide +kernel
theorem dX7_faultOf_188 : decode cX7_faultOf 188 = .ok (.iconst 1, 1) := by decide +kernel
theorem dX7_faultOf_189 : decode cX7_faultOf 189 = .ok (.iadd, 1) := by decide +kernel
theorem dX7_faultOf_190 : decode cX7_faultOf 190 = .ok (.putfield 205, 3) := by decide +kernel
theorem dX7_faultOf_193 : decode cX7_faultOf 193 = .ok (.iload_n 2, 1) := by decide +kernel
theorem dX7_faultOf_194 : decode cX7_faultOf 194 = .ok (.ifCond .eq 7, 3) := by decide +kernel
theorem dX7_faultOf_197 : decode cX7_faultOf 197 = .ok (.iconst (-1), 1) := by decide +kernel
theorem dX7_faultOf_198 : decode cX7_faultOf 198 = .ok (.goto 7, 3) := by decide +kernel
theorem dX7_faultOf_201 : decode cX7_faultOf 201 = .ok (.aload_n 0, 1) := by decide +kernel
theorem dX7_faultOf_202 : decode cX7_faultOf 202 = .ok (.getfield 202, 3) := by decide +kernel
theorem dX7_faultOf_205 : decode cX7_faultOf 205 = .ok (.ireturn, 1) := by decide +kernel
set_option maxRecDepth 20000 in
theorem ggX7_parse_X7_faultOf : GoodIn wsX7_parse wsX7_faultOf := goodIn_r _ [10, 2, 3, 4, 5, 11, 12, 13, 14, 9, 15, 38, 39, 40, 41, 42, 43, 44, 45, 46, 47, 48, 49, 50] (by decide +kernel) (by decide +kernel)
set_option maxRecDepth 20000 in
theorem gX7_parse_X7_faultOf : GoodIn wsX7_parse (wsV RX7 215 RX7 yX7_faultOf wsX7_faultOf) := goodIn_app (goodIn_of _ (by decide +kernel)) ggX7_parse_X7_faultOf
set_option maxRecDepth 20000 in
theorem ggX7_parse_X7_save : GoodIn wsX7_parse wsX7_save := goodIn_r _ [19, 20, 21, 22, 38, 39, 40, 41, 42, 43, 44, 45, 46, 47, 48, 49, 50] (by decide +kernel) (by decide +kernel)
set_option maxRecDepth 20000 in
theorem gX7_parse_X7_save : GoodIn wsX7_parse (wsV RX7 70 RX7 yX7_save wsX7_save) := goodIn_app (goodIn_of _ (by decide +kernel)) ggX7_parse_X7_save
set_option maxRecDepth 20000 in
theorem ggX7_parse_X7_clears : GoodIn wsX7_parse wsX7_clears := goodIn_r _ [26, 22, 27, 28, 29, 9, 30, 31, 32, 33, 38, 39, 40, 41, 42, 43, 44, 45, 46, 47, 48, 49, 50] (by decide +kernel) (by decide +kernel)
set_option maxRecDepth 20000 in
theorem gX7_parse_X7_clears : GoodIn wsX7_parse (wsV RX7 51 RX7 yX7_clears wsX7_clears) := goodIn_app (goodIn_of _ (by decide +kernel)) ggX7_parse_X7_clears
set_option maxRecDepth 20000 in
theorem ggX7_parse_X7_heightens : GoodIn wsX7_parse wsX7_heightens := goodIn_r _ [37, 22, 31, 32, 9, 33, 38, 39, 40, 41, 42, 43, 44, 45, 46, 47, 48, 49, 50] (by decide +kernel) (by decide +kernel)
set_option maxRecDepth 20000 in
theorem gX7_parse_X7_heightens : GoodIn wsX7_parse (wsV RX7 55 RX7 yX7_heightens wsX7_heightens) := goodIn_app (goodIn_of _ (by decide +kernel)) ggX7_parse_X7_heightens
set_option maxRecDepth 20000 in
theorem ggX7_parse_X7_cells : GoodIn wsX7_parse wsX7_cells := goodIn_r _ [30, 22, 38, 39, 40, 41, 42, 43, 44, 45, 46, 47, 48, 49, 50] (by decide +kernel) (by decide +kernel)
set_option maxRecDepth 20000 in
theorem gX7_parse_X7_cells : GoodIn wsX7_parse (wsV RX7 43 RX7 yX7_cells wsX7_cells) := goodIn_app (goodIn_of _ (by decide +kernel)) ggX7_parse_X7_cells
theorem dX7_parse_0 : decode cX7_parse 0 = .ok (.aload_n 0, 1) := by decide +kernel
theorem dX7_parse_1 : decode cX7_parse 1 = .ok (.iconst 0, 1) := by decide +kernel
theorem dX7_parse_2 : decode cX7_parse 2 = .ok (.putfield 32, 3) := by decide +kernel
theorem dX7_parse_5 : decode cX7_parse 5 = .ok (.aload_n 0, 1) := by decide +kernel
theorem dX7_parse_6 : decode cX7_parse 6 = .ok (.invokevirtual 215, 3) := by decide +kernel
theorem dX7_parse_9 : decode cX7_parse 9 = .ok (.istore_n 1, 1) := by decide +kernel
theorem dX7_parse_10 : decode cX7_parse 10 = .ok (.iload_n 1, 1) := by decide +kernel
theorem dX7_parse_11 : decode cX7_parse 11 = .ok (.iconst (-1), 1) := by decide +kernel
theorem dX7_parse_12 : decode cX7_parse 12 = .ok (.if_icmp .eq 8, 3) := by decide +kernel
theorem dX7_parse_15 : decode cX7_parse 15 = .ok (.bipush (-10), 2) := by decide +kernel
theorem dX7_parse_17 : decode cX7_parse 17 = .ok (.iload_n 1, 1) := by decide +kernel
theorem dX7_parse_18 : decode cX7_parse 18 = .ok (.isub, 1) := by decide +kernel
theorem dX7_parse_19 : decode cX7_parse 19 = .ok (.ireturn, 1) := by decide +kernel
theorem dX7_parse_20 : decode cX7_parse 20 = .ok (.aload_n 0, 1) := by decide +kernel
theorem dX7_parse_21 : decode cX7_parse 21 = .ok (.invokevirtual 70, 3) := by decide +kernel
theorem dX7_parse_24 : decode cX7_parse 24 = .ok (.aload_n 0, 1) := by decide +kernel
theorem dX7_parse_25 : decode cX7_parse 25 = .ok (.aload_n 0, 1) := by decide +kernel
theorem dX7_parse_26 : decode cX7_parse 26 = .ok (.getfield 205, 3) := by decide +kernel
theorem dX7_parse_29 : decode cX7_parse 29 = .ok (.aload_n 0, 1) := by decide +kernel
theorem dX7_parse_30 : decode cX7_parse 30 = .ok (.getfield 208, 3) := by decide +kernel
theorem dX7_parse_33 : decode cX7_parse 33 = .ok (.invokevirtual 51, 3) := by decide +kernel
theorem dX7_parse_36 : decode cX7_parse 36 = .ok (.iconst 0, 1) := by decide +kernel
theorem dX7_parse_37 : decode cX7_parse 37 = .ok (.istore_n 2, 1) := by decide +kernel
theorem dX7_parse_38 : decode cX7_parse 38 = .ok (.iconst 0, 1) := by decide +kernel
theorem dX7_parse_39 : decode cX7_parse 39 = .ok (.istore_n 3, 1) := by decide +kernel
theorem dX7_parse_40 : decode cX7_parse 40 = .ok (.iload_n 3, 1) := by decide +kernel
theorem dX7_parse_41 : decode cX7_parse 41 = .ok (.aload_n 0, 1) := by decide +kernel
theorem dX7_parse_42 : decode cX7_parse 42 = .ok (.getfield 202, 3) := by decide +kernel
theorem dX7_parse_45 : decode cX7_parse 45 = .ok (.if_icmp .ge 37, 3) := by decide +kernel
theorem dX7_parse_48 : decode cX7_parse 48 = .ok (.aload_n 0, 1) := by decide +kernel
theorem dX7_parse_49 : decode cX7_parse 49 = .ok (.getfield 25, 3) := by decide +kernel
theorem dX7_parse_52 : decode cX7_parse 52 = .ok (.iload_n 3, 1) := by decide +kernel
theorem dX7_parse_53 : decode cX7_parse 53 = .ok (.iaload, 1) := by decide +kernel
theorem dX7_parse_54 : decode cX7_parse 54 = .ok (.bipush 47, 2) := by decide +kernel
theorem dX7_parse_56 : decode cX7_parse 56 = .ok (.if_icmp .eq 20, 3) := by decide +kernel
theorem dX7_parse_59 : decode cX7_parse 59 = .ok (.aload_n 0, 1) := by decide +kernel
theorem dX7_parse_60 : decode cX7_parse 60 = .ok (.iload_n 2, 1) := by decide +kernel
theorem dX7_parse_61 : decode cX7_parse 61 = .ok (.aload_n 0, 1) := by decide +kernel
theorem dX7_parse_62 : decode cX7_parse 62 = .ok (.getfield 25, 3) := by decide +kernel
theorem dX7_parse_65 : decode cX7_parse 65 = .ok (.iload_n 3, 1) := by decide +kernel
theorem dX7_parse_66 : decode cX7_parse 66 = .ok (.iaload, 1) := by decide +kernel
theorem dX7_parse_67 : decode cX7_parse 67 = .ok (.bipush 48, 2) := by decide +kernel
theorem dX7_parse_69 : decode cX7_parse 69 = .ok (.isub, 1) := by decide +kernel
theorem dX7_parse_70 : decode cX7_parse 70 = .ok (.invokevirtual 55, 3) := by decide +kernel
theorem dX7_parse_73 : decode cX7_parse 73 = .ok (.iinc 2 1, 3) := by decide +kernel
theorem dX7_parse_76 : decode cX7_parse 76 = .ok (.iinc 3 1, 3) := by decide +kernel
theorem dX7_parse_79 : decode cX7_parse 79 = .ok (.goto (-39), 3) := by decide +kernel
theorem dX7_parse_82 : decode cX7_parse 82 = .ok (.aload_n 0, 1) := by decide +kernel
theorem dX7_parse_83 : decode cX7_parse 83 = .ok (.invokevirtual 43, 3) := by decide +kernel
theorem dX7_parse_86 : decode cX7_parse 86 = .ok (.ireturn, 1) := by decide +kernel
set_option maxRecDepth 20000 in
theorem ggX7_undo_X7_goes : GoodIn wsX7_undo wsX7_goes := goodIn_r _ [8, 9, 10, 11, 12, 13, 14, 15, 16, 17, 18, 19, 20, 21, 22] (by decide +kernel) (by decide +kernel)
set_option maxRecDepth 20000 in
theorem gX7_undo_X7_goes : GoodIn wsX7_undo (wsV RX7 66 RX7 yX7_goes wsX7_goes) := goodIn_app (goodIn_of _ (by decide +kernel)) ggX7_undo_X7_goes
theorem dX7_undo_0 : decode cX7_undo 0 = .ok (.aload_n 0, 1) := by decide +kernel
theorem dX7_undo_1 : decode cX7_undo 1 = .ok (.aload_n 0, 1) := by decide +kernel
theorem dX7_undo_2 : decode cX7_undo 2 = .ok (.getfield 36, 3) := by decide +kernel
theorem dX7_undo_5 : decode cX7_undo 5 = .ok (.ifCond .le 7, 3) := by decide +kernel
theorem dX7_undo_8 : decode cX7_undo 8 = .ok (.iconst 1, 1) := by decide +kernel
theorem dX7_undo_9 : decode cX7_undo 9 = .ok (.goto 4, 3) := by decide +kernel
theorem dX7_undo_12 : decode cX7_undo 12 = .ok (.iconst 0, 1) := by decide +kernel
theorem dX7_undo_13 : decode cX7_undo 13 = .ok (.iconst 1, 1) := by decide +kernel
theorem dX7_undo_14 : decode cX7_undo 14 = .ok (.invokevirtual 66, 3) := by decide +kernel
theorem dX7_undo_17 : decode cX7_undo 17 = .ok (.ifCond .ne 5, 3) := by decide +kernel
theorem dX7_undo_20 : decode cX7_undo 20 = .ok (.iconst 0, 1) := by decide +kernel
theorem dX7_undo_21 : decode cX7_undo 21 = .ok (.ireturn, 1) := by decide +kernel
theorem dX7_undo_22 : decode cX7_undo 22 = .ok (.aload_n 0, 1) := by decide +kernel
theorem dX7_undo_23 : decode cX7_undo 23 = .ok (.dup, 1) := by decide +kernel
theorem dX7_undo_24 : decode cX7_undo 24 = .ok (.getfield 36, 3) := by decide +kernel
theorem dX7_undo_27 : decode cX7_undo 27 = .ok (.iconst 1, 1) := by decide +kernel
theorem dX7_undo_28 : decode cX7_undo 28 = .ok (.isub, 1) := by decide +kernel
theorem dX7_undo_29 : decode cX7_undo 29 = .ok (.putfield 36, 3) := by decide +kernel
theorem dX7_undo_32 : decode cX7_undo 32 = .ok (.iconst 0, 1) := by decide +kernel
theorem dX7_undo_33 : decode cX7_undo 33 = .ok (.istore_n 1, 1) := by decide +kernel
theorem dX7_undo_34 : decode cX7_undo 34 = .ok (.iload_n 1, 1) := by decide +kernel
theorem dX7_undo_35 : decode cX7_undo 35 = .ok (.sipush 985, 3) := by decide +kernel
theorem dX7_undo_38 : decode cX7_undo 38 = .ok (.if_icmp .ge 30, 3) := by decide +kernel
theorem dX7_undo_41 : decode cX7_undo 41 = .ok (.aload_n 0, 1) := by decide +kernel
theorem dX7_undo_42 : decode cX7_undo 42 = .ok (.getfield 7, 3) := by decide +kernel
theorem dX7_undo_45 : decode cX7_undo 45 = .ok (.iload_n 1, 1) := by decide +kernel
theorem dX7_undo_46 : decode cX7_undo 46 = .ok (.aload_n 0, 1) := by decide +kernel
theorem dX7_undo_47 : decode cX7_undo 47 = .ok (.getfield 13, 3) := by decide +kernel
theorem dX7_undo_50 : decode cX7_undo 50 = .ok (.sipush 985, 3) := by decide +kernel
theorem dX7_undo_53 : decode cX7_undo 53 = .ok (.aload_n 0, 1) := by decide +kernel
theorem dX7_undo_54 : decode cX7_undo 54 = .ok (.getfield 36, 3) := by decide +kernel
theorem dX7_undo_57 : decode cX7_undo 57 = .ok (.imul, 1) := by decide +kernel
theorem dX7_undo_58 : decode cX7_undo 58 = .ok (.iload_n 1, 1) := by decide +kernel
theorem dX7_undo_59 : decode cX7_undo 59 = .ok (.iadd, 1) := by decide +kernel
theorem dX7_undo_60 : decode cX7_undo 60 = .ok (.iaload, 1) := by decide +kernel
theorem dX7_undo_61 : decode cX7_undo 61 = .ok (.iastore, 1) := by decide +kernel
theorem dX7_undo_62 : decode cX7_undo 62 = .ok (.iinc 1 1, 3) := by decide +kernel
theorem dX7_undo_65 : decode cX7_undo 65 = .ok (.goto (-31), 3) := by decide +kernel
theorem dX7_undo_68 : decode cX7_undo 68 = .ok (.aload_n 0, 1) := by decide +kernel
theorem dX7_undo_69 : decode cX7_undo 69 = .ok (.getfield 36, 3) := by decide +kernel
theorem dX7_undo_72 : decode cX7_undo 72 = .ok (.ireturn, 1) := by decide +kernel
theorem dX7_sums_0 : decode cX7_sums 0 = .ok (.ldc2_w 218, 3) := by decide +kernel
theorem dX7_sums_3 : decode cX7_sums 3 = .ok (.lload_n 0, 1) := by decide +kernel
theorem dX7_sums_4 : decode cX7_sums 4 = .ok (.lmul, 1) := by decide +kernel
theorem dX7_sums_5 : decode cX7_sums 5 = .ok (.lload_n 2, 1) := by decide +kernel
theorem dX7_sums_6 : decode cX7_sums 6 = .ok (.ladd, 1) := by decide +kernel
theorem dX7_sums_7 : decode cX7_sums 7 = .ok (.lreturn, 1) := by decide +kernel
set_option maxRecDepth 20000 in
theorem ggX7_digest_X7_sums : GoodIn wsX7_digest wsX7_sums := goodIn_r _ [9, 10] (by decide +kernel) (by decide +kernel)
set_option maxRecDepth 20000 in
theorem gX7_digest_X7_sums : GoodIn wsX7_digest (va_wsS RX7 222 yX7_sums wsX7_sums) := goodIn_app (goodIn_of _ (by decide +kernel)) ggX7_digest_X7_sums
set_option maxRecDepth 20000 in
theorem ggX7_digest_X7_cells : GoodIn wsX7_digest wsX7_cells := goodIn_r _ [14, 4, 56, 57, 58, 59, 60, 61, 62, 63, 64, 65, 66, 67, 68] (by decide +kernel) (by decide +kernel)
set_option maxRecDepth 20000 in
theorem gX7_digest_X7_cells : GoodIn wsX7_digest (wsV RX7 43 RX7 yX7_cells wsX7_cells) := goodIn_app (goodIn_of _ (by decide +kernel)) ggX7_digest_X7_cells
set_option maxRecDepth 20000 in
theorem ggX7_digest_X7_cellValue : GoodIn wsX7_digest wsX7_cellValue := goodIn_r _ [18, 19, 20, 21, 8, 22, 4, 23, 24, 25, 26, 27, 28, 29, 30, 31, 32, 33, 34, 35, 36, 37, 56, 57, 58, 59, 60, 61, 62, 63, 64, 65, 66, 67, 68] (by decide +kernel) (by decide +kernel)
set_option maxRecDepth 20000 in
theorem gX7_digest_X7_cellValue : GoodIn wsX7_digest (wsV RX7 170 RX7 yX7_cellValue wsX7_cellValue) := goodIn_app (goodIn_of _ (by decide +kernel)) ggX7_digest_X7_cellValue
set_option maxRecDepth 20000 in
theorem ggX7_digest_X7_laysDunes : GoodIn wsX7_digest wsX7_laysDunes := goodIn_r _ [41, 42, 11, 12, 13, 8, 14, 4, 43, 44, 45, 46, 31, 32, 33, 34, 35, 36, 37, 47, 48, 49, 50, 51, 52, 53, 54, 55, 27, 28, 29, 30, 56, 57, 58, 59, 60, 61, 62, 63, 64, 65, 66, 67, 68] (by decide +kernel) (by decide +kernel)
set_option maxRecDepth 20000 in
theorem gX7_digest_X7_laysDunes : GoodIn wsX7_digest (wsV RX7 187 RX7 yX7_laysDunes wsX7_laysDunes) := goodIn_app (goodIn_of _ (by decide +kernel)) ggX7_digest_X7_laysDunes
theorem dX7_digest_0 : decode cX7_digest 0 = .ok (.aload_n 0, 1) := by decide +kernel
theorem dX7_digest_1 : decode cX7_digest 1 = .ok (.iconst 0, 1) := by decide +kernel
theorem dX7_digest_2 : decode cX7_digest 2 = .ok (.putfield 32, 3) := by decide +kernel
theorem dX7_digest_5 : decode cX7_digest 5 = .ok (.ldc2_w 220, 3) := by decide +kernel
theorem dX7_digest_8 : decode cX7_digest 8 = .ok (.aload_n 0, 1) := by decide +kernel
theorem dX7_digest_9 : decode cX7_digest 9 = .ok (.getfield 202, 3) := by decide +kernel
theorem dX7_digest_12 : decode cX7_digest 12 = .ok (.i2l, 1) := by decide +kernel
theorem dX7_digest_13 : decode cX7_digest 13 = .ok (.invokestatic 222, 3) := by decide +kernel
theorem dX7_digest_16 : decode cX7_digest 16 = .ok (.lstore_n 1, 1) := by decide +kernel
theorem dX7_digest_17 : decode cX7_digest 17 = .ok (.iconst 0, 1) := by decide +kernel
theorem dX7_digest_18 : decode cX7_digest 18 = .ok (.istore_n 3, 1) := by decide +kernel
theorem dX7_digest_19 : decode cX7_digest 19 = .ok (.iload_n 3, 1) := by decide +kernel
theorem dX7_digest_20 : decode cX7_digest 20 = .ok (.bipush 9, 2) := by decide +kernel
theorem dX7_digest_22 : decode cX7_digest 22 = .ok (.if_icmp .ge 21, 3) := by decide +kernel
theorem dX7_digest_25 : decode cX7_digest 25 = .ok (.lload_n 1, 1) := by decide +kernel
theorem dX7_digest_26 : decode cX7_digest 26 = .ok (.aload_n 0, 1) := by decide +kernel
theorem dX7_digest_27 : decode cX7_digest 27 = .ok (.getfield 7, 3) := by decide +kernel
theorem dX7_digest_30 : decode cX7_digest 30 = .ok (.iload_n 3, 1) := by decide +kernel
theorem dX7_digest_31 : decode cX7_digest 31 = .ok (.iaload, 1) := by decide +kernel
theorem dX7_digest_32 : decode cX7_digest 32 = .ok (.i2l, 1) := by decide +kernel
theorem dX7_digest_33 : decode cX7_digest 33 = .ok (.invokestatic 222, 3) := by decide +kernel
theorem dX7_digest_36 : decode cX7_digest 36 = .ok (.lstore_n 1, 1) := by decide +kernel
theorem dX7_digest_37 : decode cX7_digest 37 = .ok (.iinc 3 1, 3) := by decide +kernel
theorem dX7_digest_40 : decode cX7_digest 40 = .ok (.goto (-21), 3) := by decide +kernel
theorem dX7_digest_43 : decode cX7_digest 43 = .ok (.iconst 0, 1) := by decide +kernel
theorem dX7_digest_44 : decode cX7_digest 44 = .ok (.istore_n 3, 1) := by decide +kernel
theorem dX7_digest_45 : decode cX7_digest 45 = .ok (.iload_n 3, 1) := by decide +kernel
theorem dX7_digest_46 : decode cX7_digest 46 = .ok (.aload_n 0, 1) := by decide +kernel
theorem dX7_digest_47 : decode cX7_digest 47 = .ok (.invokevirtual 43, 3) := by decide +kernel
theorem dX7_digest_50 : decode cX7_digest 50 = .ok (.if_icmp .ge 38, 3) := by decide +kernel
theorem dX7_digest_53 : decode cX7_digest 53 = .ok (.iconst 0, 1) := by decide +kernel
theorem dX7_digest_54 : decode cX7_digest 54 = .ok (.istore 4, 2) := by decide +kernel
theorem dX7_digest_56 : decode cX7_digest 56 = .ok (.iload 4, 2) := by decide +kernel
theorem dX7_digest_58 : decode cX7_digest 58 = .ok (.bipush 6, 2) := by decide +kernel
theorem dX7_digest_60 : decode cX7_digest 60 = .ok (.if_icmp .ge 22, 3) := by decide +kernel
theorem dX7_digest_63 : decode cX7_digest 63 = .ok (.lload_n 1, 1) := by decide +kernel
theorem dX7_digest_64 : decode cX7_digest 64 = .ok (.aload_n 0, 1) := by decide +kernel
theorem dX7_digest_65 : decode cX7_digest 65 = .ok (.iload_n 3, 1) := by decide +kernel
theorem dX7_digest_66 : decode cX7_digest 66 = .ok (.iload 4, 2) := by decide +kernel
theorem dX7_digest_68 : decode cX7_digest 68 = .ok (.invokevirtual 170, 3) := by decide +kernel
theorem dX7_digest_71 : decode cX7_digest 71 = .ok (.i2l, 1) := by decide +kernel
theorem dX7_digest_72 : decode cX7_digest 72 = .ok (.invokestatic 222, 3) := by decide +kernel
theorem dX7_digest_75 : decode cX7_digest 75 = .ok (.lstore_n 1, 1) := by decide +kernel
theorem dX7_digest_76 : decode cX7_digest 76 = .ok (.iinc 4 1, 3) := by decide +kernel
theorem dX7_digest_79 : decode cX7_digest 79 = .ok (.goto (-23), 3) := by decide +kernel
theorem dX7_digest_82 : decode cX7_digest 82 = .ok (.iinc 3 1, 3) := by decide +kernel
theorem dX7_digest_85 : decode cX7_digest 85 = .ok (.goto (-40), 3) := by decide +kernel
theorem dX7_digest_88 : decode cX7_digest 88 = .ok (.iconst 0, 1) := by decide +kernel
theorem dX7_digest_89 : decode cX7_digest 89 = .ok (.istore_n 3, 1) := by decide +kernel
theorem dX7_digest_90 : decode cX7_digest 90 = .ok (.iload_n 3, 1) := by decide +kernel
theorem dX7_digest_91 : decode cX7_digest 91 = .ok (.bipush 12, 2) := by decide +kernel
theorem dX7_digest_93 : decode cX7_digest 93 = .ok (.if_icmp .ge 24, 3) := by decide +kernel
theorem dX7_digest_96 : decode cX7_digest 96 = .ok (.lload_n 1, 1) := by decide +kernel
theorem dX7_digest_97 : decode cX7_digest 97 = .ok (.aload_n 0, 1) := by decide +kernel
theorem dX7_digest_98 : decode cX7_digest 98 = .ok (.getfield 7, 3) := by decide +kernel
theorem dX7_digest_101 : decode cX7_digest 101 = .ok (.bipush 9, 2) := by decide +kernel
theorem dX7_digest_103 : decode cX7_digest 103 = .ok (.iload_n 3, 1) := by decide +kernel
theorem dX7_digest_104 : decode cX7_digest 104 = .ok (.iadd, 1) := by decide +kernel
theorem dX7_digest_105 : decode cX7_digest 105 = .ok (.iaload, 1) := by decide +kernel
theorem dX7_digest_106 : decode cX7_digest 106 = .ok (.i2l, 1) := by decide +kernel
theorem dX7_digest_107 : decode cX7_digest 107 = .ok (.invokestatic 222, 3) := by decide +kernel
theorem dX7_digest_110 : decode cX7_digest 110 = .ok (.lstore_n 1, 1) := by decide +kernel
theorem dX7_digest_111 : decode cX7_digest 111 = .ok (.iinc 3 1, 3) := by decide +kernel
theorem dX7_digest_114 : decode cX7_digest 114 = .ok (.goto (-24), 3) := by decide +kernel
theorem dX7_digest_117 : decode cX7_digest 117 = .ok (.iconst 0, 1) := by decide +kernel
theorem dX7_digest_118 : decode cX7_digest 118 = .ok (.istore_n 3, 1) := by decide +kernel
theorem dX7_digest_119 : decode cX7_digest 119 = .ok (.iload_n 3, 1) := by decide +kernel
theorem dX7_digest_120 : decode cX7_digest 120 = .ok (.iconst 4, 1) := by decide +kernel
theorem dX7_digest_121 : decode cX7_digest 121 = .ok (.if_icmp .ge 24, 3) := by decide +kernel
theorem dX7_digest_124 : decode cX7_digest 124 = .ok (.lload_n 1, 1) := by decide +kernel
theorem dX7_digest_125 : decode cX7_digest 125 = .ok (.aload_n 0, 1) := by decide +kernel
theorem dX7_digest_126 : decode cX7_digest 126 = .ok (.getfield 7, 3) := by decide +kernel
theorem dX7_digest_129 : decode cX7_digest 129 = .ok (.bipush 21, 2) := by decide +kernel
theorem dX7_digest_131 : decode cX7_digest 131 = .ok (.iload_n 3, 1) := by decide +kernel
theorem dX7_digest_132 : decode cX7_digest 132 = .ok (.iadd, 1) := by decide +kernel
theorem dX7_digest_133 : decode cX7_digest 133 = .ok (.iaload, 1) := by decide +kernel
theorem dX7_digest_134 : decode cX7_digest 134 = .ok (.i2l, 1) := by decide +kernel
theorem dX7_digest_135 : decode cX7_digest 135 = .ok (.invokestatic 222, 3) := by decide +kernel
theorem dX7_digest_138 : decode cX7_digest 138 = .ok (.lstore_n 1, 1) := by decide +kernel
theorem dX7_digest_139 : decode cX7_digest 139 = .ok (.iinc 3 1, 3) := by decide +kernel
theorem dX7_digest_142 : decode cX7_digest 142 = .ok (.goto (-23), 3) := by decide +kernel
theorem dX7_digest_145 : decode cX7_digest 145 = .ok (.iconst 1, 1) := by decide +kernel
theorem dX7_digest_146 : decode cX7_digest 146 = .ok (.istore_n 3, 1) := by decide +kernel
theorem dX7_digest_147 : decode cX7_digest 147 = .ok (.iload_n 3, 1) := by decide +kernel
theorem dX7_digest_148 : decode cX7_digest 148 = .ok (.bipush 6, 2) := by decide +kernel
theorem dX7_digest_150 : decode cX7_digest 150 = .ok (.if_icmp .ge 20, 3) := by decide +kernel
theorem dX7_digest_153 : decode cX7_digest 153 = .ok (.lload_n 1, 1) := by decide +kernel
theorem dX7_digest_154 : decode cX7_digest 154 = .ok (.aload_n 0, 1) := by decide +kernel
theorem dX7_digest_155 : decode cX7_digest 155 = .ok (.iload_n 3, 1) := by decide +kernel
theorem dX7_digest_156 : decode cX7_digest 156 = .ok (.invokevirtual 187, 3) := by decide +kernel
theorem dX7_digest_159 : decode cX7_digest 159 = .ok (.i2l, 1) := by decide +kernel
theorem dX7_digest_160 : decode cX7_digest 160 = .ok (.invokestatic 222, 3) := by decide +kernel
theorem dX7_digest_163 : decode cX7_digest 163 = .ok (.lstore_n 1, 1) := by decide +kernel
theorem dX7_digest_164 : decode cX7_digest 164 = .ok (.iinc 3 1, 3) := by decide +kernel
theorem dX7_digest_167 : decode cX7_digest 167 = .ok (.goto (-20), 3) := by decide +kernel
theorem dX7_digest_170 : decode cX7_digest 170 = .ok (.lload_n 1, 1) := by decide +kernel
theorem dX7_digest_171 : decode cX7_digest 171 = .ok (.aload_n 0, 1) := by decide +kernel
theorem dX7_digest_172 : decode cX7_digest 172 = .ok (.getfield 36, 3) := by decide +kernel
theorem dX7_digest_175 : decode cX7_digest 175 = .ok (.i2l, 1) := by decide +kernel
theorem dX7_digest_176 : decode cX7_digest 176 = .ok (.invokestatic 222, 3) := by decide +kernel
theorem dX7_digest_179 : decode cX7_digest 179 = .ok (.lreturn, 1) := by decide +kernel
