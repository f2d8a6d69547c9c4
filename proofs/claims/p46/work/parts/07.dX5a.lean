set_option maxRecDepth 20000 in
theorem ggX5_init_X4_init : GoodIn wsX5_init wsX4_init := goodIn_r _ [29, 30, 2, 3, 31, 32, 33, 34, 35, 36, 62, 63] (by decide +kernel) (by decide +kernel)
set_option maxRecDepth 20000 in
theorem gX5_init_X4_init : GoodIn wsX5_init (wsX4_init) := ggX5_init_X4_init
set_option maxRecDepth 20000 in
theorem ggX5_init_X3_init : GoodIn wsX5_init wsX3_init := goodIn_r _ [38, 39, 2, 3, 40, 16, 17, 41, 42, 43, 44, 7, 45, 46, 47, 48, 49, 50, 51, 52, 53, 54, 55, 80, 81, 82, 83, 84, 85, 86, 87, 88, 89, 90, 91, 92, 93, 94, 76, 77, 78, 79] (by decide +kernel) (by decide +kernel)
set_option maxRecDepth 20000 in
theorem gX5_init_X3_init_n25 : GoodIn wsX5_init (wsX3_init) := ggX5_init_X3_init
set_option maxRecDepth 20000 in
theorem ggX5_init_X0_init : GoodIn wsX5_init wsX0_init := goodIn_r _ [43, 44, 2, 3, 7, 45, 46, 47, 48, 49, 50, 51, 52, 53, 54, 55, 80, 81, 82, 83, 84, 85, 86, 87, 88, 89, 90, 91, 92, 93, 94] (by decide +kernel) (by decide +kernel)
set_option maxRecDepth 20000 in
theorem gX5_init_X0_init_n32 : GoodIn wsX5_init (wsX0_init) := ggX5_init_X0_init
set_option maxRecDepth 20000 in
theorem ggX5_init_X1_init : GoodIn wsX5_init wsX1_init := goodIn_r _ [57, 58, 2, 3, 7, 59, 60, 61, 95, 96, 97] (by decide +kernel) (by decide +kernel)
set_option maxRecDepth 20000 in
theorem gX5_init_X1_init_n43 : GoodIn wsX5_init (wsX1_init) := ggX5_init_X1_init
theorem dX5_init_0 : decode cX5_init 0 = .ok (.aload_n 0, 1) := by decide +kernel
theorem dX5_init_1 : decode cX5_init 1 = .ok (.invokespecial 3, 3) := by decide +kernel
theorem dX5_init_4 : decode cX5_init 4 = .ok (.aload_n 0, 1) := by decide +kernel
theorem dX5_init_5 : decode cX5_init 5 = .ok (.new 9, 3) := by decide +kernel
theorem dX5_init_8 : decode cX5_init 8 = .ok (.dup, 1) := by decide +kernel
theorem dX5_init_9 : decode cX5_init 9 = .ok (.bipush 6, 2) := by decide +kernel
theorem dX5_init_11 : decode cX5_init 11 = .ok (.newarray .int, 2) := by decide +kernel
theorem dX5_init_13 : decode cX5_init 13 = .ok (.bipush 6, 2) := by decide +kernel
theorem dX5_init_15 : decode cX5_init 15 = .ok (.bipush 40, 2) := by decide +kernel
theorem dX5_init_17 : decode cX5_init 17 = .ok (.multianewarray 11 2, 4) := by decide +kernel
theorem dX5_init_21 : decode cX5_init 21 = .ok (.invokespecial 13, 3) := by decide +kernel
theorem dX5_init_24 : decode cX5_init 24 = .ok (.putfield 16, 3) := by decide +kernel
theorem dX5_init_27 : decode cX5_init 27 = .ok (.aload_n 0, 1) := by decide +kernel
theorem dX5_init_28 : decode cX5_init 28 = .ok (.new 9, 3) := by decide +kernel
theorem dX5_init_31 : decode cX5_init 31 = .ok (.dup, 1) := by decide +kernel
theorem dX5_init_32 : decode cX5_init 32 = .ok (.iconst 4, 1) := by decide +kernel
theorem dX5_init_33 : decode cX5_init 33 = .ok (.newarray .int, 2) := by decide +kernel
theorem dX5_init_35 : decode cX5_init 35 = .ok (.iconst 4, 1) := by decide +kernel
theorem dX5_init_36 : decode cX5_init 36 = .ok (.bipush 60, 2) := by decide +kernel
theorem dX5_init_38 : decode cX5_init 38 = .ok (.multianewarray 11 2, 4) := by decide +kernel
theorem dX5_init_42 : decode cX5_init 42 = .ok (.invokespecial 13, 3) := by decide +kernel
theorem dX5_init_45 : decode cX5_init 45 = .ok (.putfield 20, 3) := by decide +kernel
theorem dX5_init_48 : decode cX5_init 48 = .ok (.aload_n 0, 1) := by decide +kernel
theorem dX5_init_49 : decode cX5_init 49 = .ok (.new 23, 3) := by decide +kernel
theorem dX5_init_52 : decode cX5_init 52 = .ok (.dup, 1) := by decide +kernel
theorem dX5_init_53 : decode cX5_init 53 = .ok (.invokespecial 25, 3) := by decide +kernel
theorem dX5_init_56 : decode cX5_init 56 = .ok (.putfield 26, 3) := by decide +kernel
theorem dX5_init_59 : decode cX5_init 59 = .ok (.aload_n 0, 1) := by decide +kernel
theorem dX5_init_60 : decode cX5_init 60 = .ok (.new 30, 3) := by decide +kernel
theorem dX5_init_63 : decode cX5_init 63 = .ok (.dup, 1) := by decide +kernel
theorem dX5_init_64 : decode cX5_init 64 = .ok (.invokespecial 32, 3) := by decide +kernel
theorem dX5_init_67 : decode cX5_init 67 = .ok (.putfield 33, 3) := by decide +kernel
theorem dX5_init_70 : decode cX5_init 70 = .ok (.aload_n 0, 1) := by decide +kernel
theorem dX5_init_71 : decode cX5_init 71 = .ok (.iconst 3, 1) := by decide +kernel
theorem dX5_init_72 : decode cX5_init 72 = .ok (.anewarray 30, 3) := by decide +kernel
theorem dX5_init_75 : decode cX5_init 75 = .ok (.putfield 37, 3) := by decide +kernel
theorem dX5_init_78 : decode cX5_init 78 = .ok (.aload_n 0, 1) := by decide +kernel
theorem dX5_init_79 : decode cX5_init 79 = .ok (.new 41, 3) := by decide +kernel
theorem dX5_init_82 : decode cX5_init 82 = .ok (.dup, 1) := by decide +kernel
theorem dX5_init_83 : decode cX5_init 83 = .ok (.invokespecial 43, 3) := by decide +kernel
theorem dX5_init_86 : decode cX5_init 86 = .ok (.putfield 44, 3) := by decide +kernel
theorem dX5_init_89 : decode cX5_init 89 = .ok (.aload_n 0, 1) := by decide +kernel
theorem dX5_init_90 : decode cX5_init 90 = .ok (.bipush 11, 2) := by decide +kernel
theorem dX5_init_92 : decode cX5_init 92 = .ok (.newarray .int, 2) := by decide +kernel
theorem dX5_init_94 : decode cX5_init 94 = .ok (.putfield 48, 3) := by decide +kernel
theorem dX5_init_97 : decode cX5_init 97 = .ok (.aload_n 0, 1) := by decide +kernel
theorem dX5_init_98 : decode cX5_init 98 = .ok (.bipush 6, 2) := by decide +kernel
theorem dX5_init_100 : decode cX5_init 100 = .ok (.newarray .int, 2) := by decide +kernel
theorem dX5_init_102 : decode cX5_init 102 = .ok (.putfield 52, 3) := by decide +kernel
theorem dX5_init_105 : decode cX5_init 105 = .ok (.aload_n 0, 1) := by decide +kernel
theorem dX5_init_106 : decode cX5_init 106 = .ok (.lconst 1, 1) := by decide +kernel
theorem dX5_init_107 : decode cX5_init 107 = .ok (.putfield 55, 3) := by decide +kernel
theorem dX5_init_110 : decode cX5_init 110 = .ok (.iconst 0, 1) := by decide +kernel
theorem dX5_init_111 : decode cX5_init 111 = .ok (.istore_n 1, 1) := by decide +kernel
theorem dX5_init_112 : decode cX5_init 112 = .ok (.iload_n 1, 1) := by decide +kernel
theorem dX5_init_113 : decode cX5_init 113 = .ok (.aload_n 0, 1) := by decide +kernel
theorem dX5_init_114 : decode cX5_init 114 = .ok (.getfield 37, 3) := by decide +kernel
theorem dX5_init_117 : decode cX5_init 117 = .ok (.arraylength, 1) := by decide +kernel
theorem dX5_init_118 : decode cX5_init 118 = .ok (.if_icmp .ge 22, 3) := by decide +kernel
theorem dX5_init_121 : decode cX5_init 121 = .ok (.aload_n 0, 1) := by decide +kernel
theorem dX5_init_122 : decode cX5_init 122 = .ok (.getfield 37, 3) := by decide +kernel
theorem dX5_init_125 : decode cX5_init 125 = .ok (.iload_n 1, 1) := by decide +kernel
theorem dX5_init_126 : decode cX5_init 126 = .ok (.new 30, 3) := by decide +kernel
theorem dX5_init_129 : decode cX5_init 129 = .ok (.dup, 1) := by decide +kernel
theorem dX5_init_130 : decode cX5_init 130 = .ok (.invokespecial 32, 3) := by decide +kernel
theorem dX5_init_133 : decode cX5_init 133 = .ok (.aastore, 1) := by decide +kernel
theorem dX5_init_134 : decode cX5_init 134 = .ok (.iinc 1 1, 3) := by decide +kernel
theorem dX5_init_137 : decode cX5_init 137 = .ok (.goto (-25), 3) := by decide +kernel
theorem dX5_init_140 : decode cX5_init 140 = .ok (.return_, 1) := by decide +kernel
set_option maxRecDepth 20000 in
theorem ggX5_row_X5_makeItem : GoodIn wsX5_row wsX5_makeItem := goodIn_r _ [6, 7, 8, 9, 10, 11, 12, 13, 14, 15, 16, 5, 17, 18, 19, 20, 21, 22, 23, 24, 25, 26, 27, 28, 29, 30, 31, 32, 33, 34, 35, 36, 37, 38, 51, 52, 39, 40, 41, 42, 43, 44, 45, 46, 47, 48, 49, 50] (by decide +kernel) (by decide +kernel)
set_option maxRecDepth 20000 in
theorem gX5_row_X5_makeItem : GoodIn wsX5_row (wsV RX5 59 RX5 yX5_makeItem wsX5_makeItem) := goodIn_app (goodIn_of _ (by decide +kernel)) ggX5_row_X5_makeItem
theorem dX5_row_0 : decode cX5_row 0 = .ok (.aload_n 0, 1) := by decide +kernel
theorem dX5_row_1 : decode cX5_row 1 = .ok (.aload_n 0, 1) := by decide +kernel
theorem dX5_row_2 : decode cX5_row 2 = .ok (.getfield 16, 3) := by decide +kernel
theorem dX5_row_5 : decode cX5_row 5 = .ok (.iload_n 1, 1) := by decide +kernel
theorem dX5_row_6 : decode cX5_row 6 = .ok (.iload_n 2, 1) := by decide +kernel
theorem dX5_row_7 : decode cX5_row 7 = .ok (.bipush 40, 2) := by decide +kernel
theorem dX5_row_9 : decode cX5_row 9 = .ok (.iconst 0, 1) := by decide +kernel
theorem dX5_row_10 : decode cX5_row 10 = .ok (.invokevirtual 59, 3) := by decide +kernel
theorem dX5_row_13 : decode cX5_row 13 = .ok (.ireturn, 1) := by decide +kernel
set_option maxRecDepth 20000 in
theorem ggX5_lay_X5_refusalOfCell : GoodIn wsX5_lay wsX5_refusalOfCell := goodIn_r _ [7, 8, 9, 10, 6, 11, 12, 13, 14, 15, 16, 17, 18, 19, 20, 21, 22, 23, 24, 25, 26, 27, 28, 29, 30, 31, 32, 33, 34, 35, 36, 37, 38, 39, 40, 41, 42, 43, 69, 70, 57, 58, 59, 60, 61, 62, 63, 64, 65, 66, 67, 68] (by decide +kernel) (by decide +kernel)
set_option maxRecDepth 20000 in
theorem gX5_lay_X5_refusalOfCell : GoodIn wsX5_lay (wsV RX5 63 RX5 yX5_refusalOfCell wsX5_refusalOfCell) := goodIn_app (goodIn_of _ (by decide +kernel)) ggX5_lay_X5_refusalOfCell
set_option maxRecDepth 20000 in
theorem ggX5_lay_X4_cell : GoodIn wsX5_lay wsX4_cell := goodIn_r _ [47, 48, 41, 42, 15, 43, 23, 24, 25, 26, 17, 27, 13, 14, 16, 18, 49, 50, 51, 52, 35, 6, 36, 69, 70] (by decide +kernel) (by decide +kernel)
set_option maxRecDepth 20000 in
theorem gX5_lay_X4_cell : GoodIn wsX5_lay (wsV RX5 67 RX4 yX4_cell wsX4_cell) := goodIn_app (goodIn_of _ (by decide +kernel)) ggX5_lay_X4_cell
set_option maxRecDepth 20000 in
theorem ggX5_lay_X4_setCell : GoodIn wsX5_lay wsX4_setCell := goodIn_r _ [56, 48, 41, 42, 15, 43, 23, 24, 25, 26, 17, 27, 13, 14, 16, 18, 49, 50, 51, 52, 38, 6, 39, 69, 70] (by decide +kernel) (by decide +kernel)
set_option maxRecDepth 20000 in
theorem gX5_lay_X4_setCell : GoodIn wsX5_lay (wsV RX5 75 RX4 yX4_setCell wsX4_setCell) := goodIn_app (goodIn_of _ (by decide +kernel)) ggX5_lay_X4_setCell
theorem dX5_lay_0 : decode cX5_lay 0 = .ok (.aload_n 0, 1) := by decide +kernel
theorem dX5_lay_1 : decode cX5_lay 1 = .ok (.aload_n 0, 1) := by decide +kernel
theorem dX5_lay_2 : decode cX5_lay 2 = .ok (.getfield 16, 3) := by decide +kernel
theorem dX5_lay_5 : decode cX5_lay 5 = .ok (.iload_n 1, 1) := by decide +kernel
theorem dX5_lay_6 : decode cX5_lay 6 = .ok (.iload_n 2, 1) := by decide +kernel
theorem dX5_lay_7 : decode cX5_lay 7 = .ok (.invokevirtual 63, 3) := by decide +kernel
theorem dX5_lay_10 : decode cX5_lay 10 = .ok (.istore 4, 2) := by decide +kernel
theorem dX5_lay_12 : decode cX5_lay 12 = .ok (.iload 4, 2) := by decide +kernel
theorem dX5_lay_14 : decode cX5_lay 14 = .ok (.ifCond .eq 6, 3) := by decide +kernel
theorem dX5_lay_17 : decode cX5_lay 17 = .ok (.iload 4, 2) := by decide +kernel
theorem dX5_lay_19 : decode cX5_lay 19 = .ok (.ireturn, 1) := by decide +kernel
theorem dX5_lay_20 : decode cX5_lay 20 = .ok (.aload_n 0, 1) := by decide +kernel
theorem dX5_lay_21 : decode cX5_lay 21 = .ok (.aload_n 0, 1) := by decide +kernel
theorem dX5_lay_22 : decode cX5_lay 22 = .ok (.getfield 16, 3) := by decide +kernel
theorem dX5_lay_25 : decode cX5_lay 25 = .ok (.iload_n 1, 1) := by decide +kernel
theorem dX5_lay_26 : decode cX5_lay 26 = .ok (.iload_n 2, 1) := by decide +kernel
theorem dX5_lay_27 : decode cX5_lay 27 = .ok (.invokevirtual 67, 3) := by decide +kernel
theorem dX5_lay_30 : decode cX5_lay 30 = .ok (.putfield 71, 3) := by decide +kernel
theorem dX5_lay_33 : decode cX5_lay 33 = .ok (.aload_n 0, 1) := by decide +kernel
theorem dX5_lay_34 : decode cX5_lay 34 = .ok (.getfield 16, 3) := by decide +kernel
theorem dX5_lay_37 : decode cX5_lay 37 = .ok (.iload_n 1, 1) := by decide +kernel
theorem dX5_lay_38 : decode cX5_lay 38 = .ok (.iload_n 2, 1) := by decide +kernel
theorem dX5_lay_39 : decode cX5_lay 39 = .ok (.iload_n 3, 1) := by decide +kernel
theorem dX5_lay_40 : decode cX5_lay 40 = .ok (.invokevirtual 75, 3) := by decide +kernel
theorem dX5_lay_43 : decode cX5_lay 43 = .ok (.iconst 1, 1) := by decide +kernel
theorem dX5_lay_44 : decode cX5_lay 44 = .ok (.ireturn, 1) := by decide +kernel
set_option maxRecDepth 20000 in
theorem ggX5_at_X5_refusalOfCell : GoodIn wsX5_at wsX5_refusalOfCell := goodIn_r _ [7, 8, 9, 10, 6, 11, 12, 13, 14, 15, 16, 17, 18, 19, 20, 21, 22, 23, 24, 25, 26, 27, 28, 29, 30, 31, 32, 33, 34, 35, 36, 37, 38, 39, 40, 41, 42, 43, 65, 66, 53, 54, 55, 56, 57, 58, 59, 60, 61, 62, 63, 64] (by decide +kernel) (by decide +kernel)
set_option maxRecDepth 20000 in
theorem gX5_at_X5_refusalOfCell : GoodIn wsX5_at (wsV RX5 63 RX5 yX5_refusalOfCell wsX5_refusalOfCell) := goodIn_app (goodIn_of _ (by decide +kernel)) ggX5_at_X5_refusalOfCell
set_option maxRecDepth 20000 in
theorem ggX5_at_X4_cell : GoodIn wsX5_at wsX4_cell := goodIn_r _ [47, 48, 41, 42, 15, 43, 23, 24, 25, 26, 17, 27, 13, 14, 16, 18, 49, 50, 51, 52, 35, 6, 36, 65, 66] (by decide +kernel) (by decide +kernel)
set_option maxRecDepth 20000 in
theorem gX5_at_X4_cell : GoodIn wsX5_at (wsV RX5 67 RX4 yX4_cell wsX4_cell) := goodIn_app (goodIn_of _ (by decide +kernel)) ggX5_at_X4_cell
theorem dX5_at_0 : decode cX5_at 0 = .ok (.aload_n 0, 1) := by decide +kernel
theorem dX5_at_1 : decode cX5_at 1 = .ok (.aload_n 0, 1) := by decide +kernel
theorem dX5_at_2 : decode cX5_at 2 = .ok (.getfield 16, 3) := by decide +kernel
theorem dX5_at_5 : decode cX5_at 5 = .ok (.iload_n 1, 1) := by decide +kernel
theorem dX5_at_6 : decode cX5_at 6 = .ok (.iload_n 2, 1) := by decide +kernel
theorem dX5_at_7 : decode cX5_at 7 = .ok (.invokevirtual 63, 3) := by decide +kernel
theorem dX5_at_10 : decode cX5_at 10 = .ok (.istore_n 3, 1) := by decide +kernel
theorem dX5_at_11 : decode cX5_at 11 = .ok (.iload_n 3, 1) := by decide +kernel
theorem dX5_at_12 : decode cX5_at 12 = .ok (.ifCond .eq 5, 3) := by decide +kernel
theorem dX5_at_15 : decode cX5_at 15 = .ok (.iload_n 3, 1) := by decide +kernel
theorem dX5_at_16 : decode cX5_at 16 = .ok (.ireturn, 1) := by decide +kernel
theorem dX5_at_17 : decode cX5_at 17 = .ok (.aload_n 0, 1) := by decide +kernel
theorem dX5_at_18 : decode cX5_at 18 = .ok (.aload_n 0, 1) := by decide +kernel
theorem dX5_at_19 : decode cX5_at 19 = .ok (.getfield 16, 3) := by decide +kernel
theorem dX5_at_22 : decode cX5_at 22 = .ok (.iload_n 1, 1) := by decide +kernel
theorem dX5_at_23 : decode cX5_at 23 = .ok (.iload_n 2, 1) := by decide +kernel
theorem dX5_at_24 : decode cX5_at 24 = .ok (.invokevirtual 67, 3) := by decide +kernel
theorem dX5_at_27 : decode cX5_at 27 = .ok (.putfield 71, 3) := by decide +kernel
theorem dX5_at_30 : decode cX5_at 30 = .ok (.iconst 1, 1) := by decide +kernel
theorem dX5_at_31 : decode cX5_at 31 = .ok (.ireturn, 1) := by decide +kernel
set_option maxRecDepth 20000 in
theorem ggX5_tear_X5_refusalOfItem : GoodIn wsX5_tear wsX5_refusalOfItem := goodIn_r _ [6, 7, 8, 9, 10, 11, 12, 13, 14, 15, 16, 17, 18, 19, 20, 21, 22, 23, 24, 25, 5, 26, 27, 28, 29, 30, 31, 32, 33, 34, 51, 52, 39, 40, 41, 42, 43, 44, 45, 46, 47, 48, 49, 50] (by decide +kernel) (by decide +kernel)
set_option maxRecDepth 20000 in
theorem gX5_tear_X5_refusalOfItem : GoodIn wsX5_tear (wsV RX5 79 RX5 yX5_refusalOfItem wsX5_refusalOfItem) := goodIn_app (goodIn_of _ (by decide +kernel)) ggX5_tear_X5_refusalOfItem
set_option maxRecDepth 20000 in
theorem ggX5_tear_X4_remove : GoodIn wsX5_tear wsX4_remove := goodIn_r _ [38, 12, 33, 5, 34, 51, 52] (by decide +kernel) (by decide +kernel)
set_option maxRecDepth 20000 in
theorem gX5_tear_X4_remove : GoodIn wsX5_tear (wsV RX5 83 RX4 yX4_remove wsX4_remove) := goodIn_app (goodIn_of _ (by decide +kernel)) ggX5_tear_X4_remove
theorem dX5_tear_0 : decode cX5_tear 0 = .ok (.aload_n 0, 1) := by decide +kernel
theorem dX5_tear_1 : decode cX5_tear 1 = .ok (.aload_n 0, 1) := by decide +kernel
theorem dX5_tear_2 : decode cX5_tear 2 = .ok (.getfield 16, 3) := by decide +kernel
theorem dX5_tear_5 : decode cX5_tear 5 = .ok (.iload_n 1, 1) := by decide +kernel
theorem dX5_tear_6 : decode cX5_tear 6 = .ok (.invokevirtual 79, 3) := by decide +kernel
theorem dX5_tear_9 : decode cX5_tear 9 = .ok (.istore_n 2, 1) := by decide +kernel
theorem dX5_tear_10 : decode cX5_tear 10 = .ok (.iload_n 2, 1) := by decide +kernel
theorem dX5_tear_11 : decode cX5_tear 11 = .ok (.ifCond .eq 5, 3) := by decide +kernel
theorem dX5_tear_14 : decode cX5_tear 14 = .ok (.iload_n 2, 1) := by decide +kernel
theorem dX5_tear_15 : decode cX5_tear 15 = .ok (.ireturn, 1) := by decide +kernel
theorem dX5_tear_16 : decode cX5_tear 16 = .ok (.aload_n 0, 1) := by decide +kernel
theorem dX5_tear_17 : decode cX5_tear 17 = .ok (.getfield 16, 3) := by decide +kernel
theorem dX5_tear_20 : decode cX5_tear 20 = .ok (.iload_n 1, 1) := by decide +kernel
theorem dX5_tear_21 : decode cX5_tear 21 = .ok (.invokevirtual 83, 3) := by decide +kernel
theorem dX5_tear_24 : decode cX5_tear 24 = .ok (.iconst 1, 1) := by decide +kernel
theorem dX5_tear_25 : decode cX5_tear 25 = .ok (.ireturn, 1) := by decide +kernel
set_option maxRecDepth 20000 in
theorem ggX5_copy_X4_isNumber : GoodIn wsX5_copy wsX4_isNumber := goodIn_r _ [6, 7, 8, 62, 63] (by decide +kernel) (by decide +kernel)
set_option maxRecDepth 20000 in
theorem gX5_copy_X4_isNumber : GoodIn wsX5_copy (wsV RX5 87 RX4 yX4_isNumber wsX4_isNumber) := goodIn_app (goodIn_of _ (by decide +kernel)) ggX5_copy_X4_isNumber
set_option maxRecDepth 20000 in
theorem ggX5_copy_X5_found : GoodIn wsX5_copy wsX5_found := goodIn_r _ [13, 14, 15, 16, 17, 12, 18, 19, 20, 21, 50, 51, 52, 53, 54, 55, 56, 57, 58, 59, 60, 61] (by decide +kernel) (by decide +kernel)
set_option maxRecDepth 20000 in
theorem gX5_copy_X5_found : GoodIn wsX5_copy (wsV RX5 91 RX5 yX5_found wsX5_found) := goodIn_app (goodIn_of _ (by decide +kernel)) ggX5_copy_X5_found
set_option maxRecDepth 20000 in
theorem ggX5_copy_X4_isThere : GoodIn wsX5_copy wsX4_isThere := goodIn_r _ [25, 26, 27, 28, 5, 29, 7, 30, 3, 4, 6, 8, 62, 63] (by decide +kernel) (by decide +kernel)
set_option maxRecDepth 20000 in
theorem gX5_copy_X4_isThere : GoodIn wsX5_copy (wsV RX5 95 RX4 yX4_isThere wsX4_isThere) := goodIn_app (goodIn_of _ (by decide +kernel)) ggX5_copy_X4_isThere
set_option maxRecDepth 20000 in
theorem ggX5_copy_X4_hasStretch : GoodIn wsX5_copy wsX4_hasStretch := goodIn_r _ [34, 26, 27, 28, 5, 29, 7, 30, 3, 4, 6, 8, 62, 63] (by decide +kernel) (by decide +kernel)
set_option maxRecDepth 20000 in
theorem gX5_copy_X4_hasStretch : GoodIn wsX5_copy (wsV RX5 98 RX4 yX4_hasStretch wsX4_hasStretch) := goodIn_app (goodIn_of _ (by decide +kernel)) ggX5_copy_X4_hasStretch
set_option maxRecDepth 20000 in
theorem ggX5_copy_X4_copyCells : GoodIn wsX5_copy wsX4_copyCells := goodIn_r _ [38, 39, 32, 33, 5, 34, 26, 27, 28, 29, 7, 30, 3, 4, 6, 8, 40, 41, 42, 43, 44, 12, 45, 46, 47, 48, 49, 62, 63] (by decide +kernel) (by decide +kernel)
set_option maxRecDepth 20000 in
theorem gX5_copy_X4_copyCells : GoodIn wsX5_copy (wsV RX5 102 RX4 yX4_copyCells wsX4_copyCells) := goodIn_app (goodIn_of _ (by decide +kernel)) ggX5_copy_X4_copyCells
theorem dX5_copy_0 : decode cX5_copy 0 = .ok (.aload_n 0, 1) := by decide +kernel
theorem dX5_copy_1 : decode cX5_copy 1 = .ok (.getfield 16, 3) := by decide +kernel
theorem dX5_copy_4 : decode cX5_copy 4 = .ok (.iload_n 1, 1) := by decide +kernel
theorem dX5_copy_5 : decode cX5_copy 5 = .ok (.invokevirtual 87, 3) := by decide +kernel
theorem dX5_copy_8 : decode cX5_copy 8 = .ok (.ifCond .eq 14, 3) := by decide +kernel
theorem dX5_copy_11 : decode cX5_copy 11 = .ok (.aload_n 0, 1) := by decide +kernel
theorem dX5_copy_12 : decode cX5_copy 12 = .ok (.getfield 16, 3) := by decide +kernel
theorem dX5_copy_15 : decode cX5_copy 15 = .ok (.iload_n 3, 1) := by decide +kernel
theorem dX5_copy_16 : decode cX5_copy 16 = .ok (.invokevirtual 87, 3) := by decide +kernel
theorem dX5_copy_19 : decode cX5_copy 19 = .ok (.ifCond .ne 5, 3) := by decide +kernel
theorem dX5_copy_22 : decode cX5_copy 22 = .ok (.iconst (-1), 1) := by decide +kernel
theorem dX5_copy_23 : decode cX5_copy 23 = .ok (.ireturn, 1) := by decide +kernel
theorem dX5_copy_24 : decode cX5_copy 24 = .ok (.iload 5, 2) := by decide +kernel
theorem dX5_copy_26 : decode cX5_copy 26 = .ok (.ifCond .ge 9, 3) := by decide +kernel
theorem dX5_copy_29 : decode cX5_copy 29 = .ok (.aload_n 0, 1) := by decide +kernel
theorem dX5_copy_30 : decode cX5_copy 30 = .ok (.iconst 5, 1) := by decide +kernel
theorem dX5_copy_31 : decode cX5_copy 31 = .ok (.invokevirtual 91, 3) := by decide +kernel
theorem dX5_copy_34 : decode cX5_copy 34 = .ok (.ireturn, 1) := by decide +kernel
theorem dX5_copy_35 : decode cX5_copy 35 = .ok (.aload_n 0, 1) := by decide +kernel
theorem dX5_copy_36 : decode cX5_copy 36 = .ok (.getfield 16, 3) := by decide +kernel
theorem dX5_copy_39 : decode cX5_copy 39 = .ok (.iload_n 1, 1) := by decide +kernel
theorem dX5_copy_40 : decode cX5_copy 40 = .ok (.invokevirtual 95, 3) := by decide +kernel
theorem dX5_copy_43 : decode cX5_copy 43 = .ok (.ifCond .eq 14, 3) := by decide +kernel
theorem dX5_copy_46 : decode cX5_copy 46 = .ok (.aload_n 0, 1) := by decide +kernel
theorem dX5_copy_47 : decode cX5_copy 47 = .ok (.getfield 16, 3) := by decide +kernel
theorem dX5_copy_50 : decode cX5_copy 50 = .ok (.iload_n 3, 1) := by decide +kernel
theorem dX5_copy_51 : decode cX5_copy 51 = .ok (.invokevirtual 95, 3) := by decide +kernel
theorem dX5_copy_54 : decode cX5_copy 54 = .ok (.ifCond .ne 9, 3) := by decide +kernel
theorem dX5_copy_57 : decode cX5_copy 57 = .ok (.aload_n 0, 1) := by decide +kernel
theorem dX5_copy_58 : decode cX5_copy 58 = .ok (.iconst 1, 1) := by decide +kernel
theorem dX5_copy_59 : decode cX5_copy 59 = .ok (.invokevirtual 91, 3) := by decide +kernel
theorem dX5_copy_62 : decode cX5_copy 62 = .ok (.ireturn, 1) := by decide +kernel
theorem dX5_copy_63 : decode cX5_copy 63 = .ok (.aload_n 0, 1) := by decide +kernel
theorem dX5_copy_64 : decode cX5_copy 64 = .ok (.getfield 16, 3) := by decide +kernel
theorem dX5_copy_67 : decode cX5_copy 67 = .ok (.iload_n 1, 1) := by decide +kernel
theorem dX5_copy_68 : decode cX5_copy 68 = .ok (.iload_n 2, 1) := by decide +kernel
theorem dX5_copy_69 : decode cX5_copy 69 = .ok (.iload 5, 2) := by decide +kernel
theorem dX5_copy_71 : decode cX5_copy 71 = .ok (.invokevirtual 98, 3) := by decide +kernel
theorem dX5_copy_74 : decode cX5_copy 74 = .ok (.ifCond .eq 18, 3) := by decide +kernel
theorem dX5_copy_77 : decode cX5_copy 77 = .ok (.aload_n 0, 1) := by decide +kernel
theorem dX5_copy_78 : decode cX5_copy 78 = .ok (.getfield 16, 3) := by decide +kernel
theorem dX5_copy_81 : decode cX5_copy 81 = .ok (.iload_n 3, 1) := by decide +kernel
theorem dX5_copy_82 : decode cX5_copy 82 = .ok (.iload 4, 2) := by decide +kernel
theorem dX5_copy_84 : decode cX5_copy 84 = .ok (.iload 5, 2) := by decide +kernel
theorem dX5_copy_86 : decode cX5_copy 86 = .ok (.invokevirtual 98, 3) := by decide +kernel
theorem dX5_copy_89 : decode cX5_copy 89 = .ok (.ifCond .ne 9, 3) := by decide +kernel
theorem dX5_copy_92 : decode cX5_copy 92 = .ok (.aload_n 0, 1) := by decide +kernel
theorem dX5_copy_93 : decode cX5_copy 93 = .ok (.iconst 2, 1) := by decide +kernel
theorem dX5_copy_94 : decode cX5_copy 94 = .ok (.invokevirtual 91, 3) := by decide +kernel
theorem dX5_copy_97 : decode cX5_copy 97 = .ok (.ireturn, 1) := by decide +kernel
theorem dX5_copy_98 : decode cX5_copy 98 = .ok (.aload_n 0, 1) := by decide +kernel
theorem dX5_copy_99 : decode cX5_copy 99 = .ok (.getfield 16, 3) := by decide +kernel
theorem dX5_copy_102 : decode cX5_copy 102 = .ok (.iload_n 1, 1) := by decide +kernel
theorem dX5_copy_103 : decode cX5_copy 103 = .ok (.iload_n 2, 1) := by decide +kernel
theorem dX5_copy_104 : decode cX5_copy 104 = .ok (.iload_n 3, 1) := by decide +kernel
theorem dX5_copy_105 : decode cX5_copy 105 = .ok (.iload 4, 2) := by decide +kernel
theorem dX5_copy_107 : decode cX5_copy 107 = .ok (.iload 5, 2) := by decide +kernel
theorem dX5_copy_109 : decode cX5_copy 109 = .ok (.invokevirtual 102, 3) := by decide +kernel
theorem dX5_copy_112 : decode cX5_copy 112 = .ok (.iconst 1, 1) := by decide +kernel
theorem dX5_copy_113 : decode cX5_copy 113 = .ok (.ireturn, 1) := by decide +kernel
set_option maxRecDepth 20000 in
theorem ggX5_mean_X5_refusalOfItem : GoodIn wsX5_mean wsX5_refusalOfItem := goodIn_r _ [7, 8, 9, 10, 11, 12, 13, 14, 15, 16, 17, 18, 19, 20, 21, 22, 23, 24, 25, 26, 6, 27, 28, 29, 30, 31, 32, 33, 34, 35, 61, 62, 49, 50, 51, 52, 53, 54, 55, 56, 57, 58, 59, 60] (by decide +kernel) (by decide +kernel)
set_option maxRecDepth 20000 in
theorem gX5_mean_X5_refusalOfItem : GoodIn wsX5_mean (wsV RX5 79 RX5 yX5_refusalOfItem wsX5_refusalOfItem) := goodIn_app (goodIn_of _ (by decide +kernel)) ggX5_mean_X5_refusalOfItem
set_option maxRecDepth 20000 in
theorem ggX5_mean_X4_sizeOf : GoodIn wsX5_mean wsX4_sizeOf := goodIn_r _ [22, 13, 23, 9, 10, 11, 12, 14, 61, 62] (by decide +kernel) (by decide +kernel)
set_option maxRecDepth 20000 in
theorem gX5_mean_X4_sizeOf : GoodIn wsX5_mean (wsV RX5 106 RX4 yX4_sizeOf wsX4_sizeOf) := goodIn_app (goodIn_of _ (by decide +kernel)) ggX5_mean_X4_sizeOf
set_option maxRecDepth 20000 in
theorem ggX5_mean_X5_found : GoodIn wsX5_mean wsX5_found := goodIn_r _ [27, 28, 29, 30, 31, 6, 32, 33, 34, 35, 49, 50, 51, 52, 53, 54, 55, 56, 57, 58, 59, 60] (by decide +kernel) (by decide +kernel)
set_option maxRecDepth 20000 in
theorem gX5_mean_X5_found : GoodIn wsX5_mean (wsV RX5 91 RX5 yX5_found wsX5_found) := goodIn_app (goodIn_of _ (by decide +kernel)) ggX5_mean_X5_found
set_option maxRecDepth 20000 in
theorem ggX5_mean_X4_cell : GoodIn wsX5_mean wsX4_cell := goodIn_r _ [40, 41, 42, 43, 11, 44, 19, 20, 21, 22, 13, 23, 9, 10, 12, 14, 45, 46, 47, 48, 31, 6, 32, 61, 62] (by decide +kernel) (by decide +kernel)
set_option maxRecDepth 20000 in
theorem gX5_mean_X4_cell : GoodIn wsX5_mean (wsV RX5 67 RX4 yX4_cell wsX4_cell) := goodIn_app (goodIn_of _ (by decide +kernel)) ggX5_mean_X4_cell
theorem dX5_mean_0 : decode cX5_mean 0 = .ok (.aload_n 0, 1) := by decide +kernel
theorem dX5_mean_1 : decode cX5_mean 1 = .ok (.aload_n 0, 1) := by decide +kernel
theorem dX5_mean_2 : decode cX5_mean 2 = .ok (.getfield 16, 3) := by decide +kernel
theorem dX5_mean_5 : decode cX5_mean 5 = .ok (.iload_n 1, 1) := by decide +kernel
theorem dX5_mean_6 : decode cX5_mean 6 = .ok (.invokevirtual 79, 3) := by decide +kernel
theorem dX5_mean_9 : decode cX5_mean 9 = .ok (.istore_n 2, 1) := by decide +kernel
theorem dX5_mean_10 : decode cX5_mean 10 = .ok (.iload_n 2, 1) := by decide +kernel
theorem dX5_mean_11 : decode cX5_mean 11 = .ok (.ifCond .eq 5, 3) := by decide +kernel
theorem dX5_mean_14 : decode cX5_mean 14 = .ok (.iload_n 2, 1) := by decide +kernel
theorem dX5_mean_15 : decode cX5_mean 15 = .ok (.ireturn, 1) := by decide +kernel
theorem dX5_mean_16 : decode cX5_mean 16 = .ok (.aload_n 0, 1) := by decide +kernel
theorem dX5_mean_17 : decode cX5_mean 17 = .ok (.getfield 16, 3) := by decide +kernel
theorem dX5_mean_20 : decode cX5_mean 20 = .ok (.iload_n 1, 1) := by decide +kernel
theorem dX5_mean_21 : decode cX5_mean 21 = .ok (.invokevirtual 106, 3) := by decide +kernel
theorem dX5_mean_24 : decode cX5_mean 24 = .ok (.istore_n 3, 1) := by decide +kernel
theorem dX5_mean_25 : decode cX5_mean 25 = .ok (.iload_n 3, 1) := by decide +kernel
theorem dX5_mean_26 : decode cX5_mean 26 = .ok (.ifCond .gt 9, 3) := by decide +kernel
theorem dX5_mean_29 : decode cX5_mean 29 = .ok (.aload_n 0, 1) := by decide +kernel
theorem dX5_mean_30 : decode cX5_mean 30 = .ok (.iconst 4, 1) := by decide +kernel
theorem dX5_mean_31 : decode cX5_mean 31 = .ok (.invokevirtual 91, 3) := by decide +kernel
theorem dX5_mean_34 : decode cX5_mean 34 = .ok (.ireturn, 1) := by decide +kernel
theorem dX5_mean_35 : decode cX5_mean 35 = .ok (.lconst 0, 1) := by decide +kernel
theorem dX5_mean_36 : decode cX5_mean 36 = .ok (.lstore 4, 2) := by decide +kernel
theorem dX5_mean_38 : decode cX5_mean 38 = .ok (.iconst 0, 1) := by decide +kernel
theorem dX5_mean_39 : decode cX5_mean 39 = .ok (.istore 6, 2) := by decide +kernel
theorem dX5_mean_41 : decode cX5_mean 41 = .ok (.iload 6, 2) := by decide +kernel
theorem dX5_mean_43 : decode cX5_mean 43 = .ok (.iload_n 3, 1) := by decide +kernel
theorem dX5_mean_44 : decode cX5_mean 44 = .ok (.if_icmp .ge 25, 3) := by decide +kernel
theorem dX5_mean_47 : decode cX5_mean 47 = .ok (.lload 4, 2) := by decide +kernel
theorem dX5_mean_49 : decode cX5_mean 49 = .ok (.aload_n 0, 1) := by decide +kernel
theorem dX5_mean_50 : decode cX5_mean 50 = .ok (.getfield 16, 3) := by decide +kernel
theorem dX5_mean_53 : decode cX5_mean 53 = .ok (.iload_n 1, 1) := by decide +kernel
theorem dX5_mean_54 : decode cX5_mean 54 = .ok (.iload 6, 2) := by decide +kernel
theorem dX5_mean_56 : decode cX5_mean 56 = .ok (.invokevirtual 67, 3) := by decide +kernel
theorem dX5_mean_59 : decode cX5_mean 59 = .ok (.i2l, 1) := by decide +kernel
theorem dX5_mean_60 : decode cX5_mean 60 = .ok (.ladd, 1) := by decide +kernel
theorem dX5_mean_61 : decode cX5_mean 61 = .ok (.lstore 4, 2) := by decide +kernel
theorem dX5_mean_63 : decode cX5_mean 63 = .ok (.iinc 6 1, 3) := by decide +kernel
theorem dX5_mean_66 : decode cX5_mean 66 = .ok (.goto (-25), 3) := by decide +kernel
theorem dX5_mean_69 : decode cX5_mean 69 = .ok (.aload_n 0, 1) := by decide +kernel
theorem dX5_mean_70 : decode cX5_mean 70 = .ok (.lload 4, 2) := by decide +kernel
theorem dX5_mean_72 : decode cX5_mean 72 = .ok (.iload_n 3, 1) := by decide +kernel
theorem dX5_mean_73 : decode cX5_mean 73 = .ok (.i2l, 1) := by decide +kernel
theorem dX5_mean_74 : decode cX5_mean 74 = .ok (.ldiv, 1) := by decide +kernel
theorem dX5_mean_75 : decode cX5_mean 75 = .ok (.l2i, 1) := by decide +kernel
theorem dX5_mean_76 : decode cX5_mean 76 = .ok (.putfield 71, 3) := by decide +kernel
theorem dX5_mean_79 : decode cX5_mean 79 = .ok (.iconst 1, 1) := by decide +kernel
theorem dX5_mean_80 : decode cX5_mean 80 = .ok (.ireturn, 1) := by decide +kernel
set_option maxRecDepth 20000 in
theorem ggX5_text_X5_makeItem : GoodIn wsX5_text wsX5_makeItem := goodIn_r _ [6, 7, 8, 9, 10, 11, 12, 13, 14, 15, 16, 5, 17, 18, 19, 20, 21, 22, 23, 24, 25, 26, 27, 28, 29, 30, 31, 32, 33, 34, 35, 36, 37, 38, 51, 52, 39, 40, 41, 42, 43, 44, 45, 46, 47, 48, 49, 50] (by decide +kernel) (by decide +kernel)
set_option maxRecDepth 20000 in
theorem gX5_text_X5_makeItem : GoodIn wsX5_text (wsV RX5 59 RX5 yX5_makeItem wsX5_makeItem) := goodIn_app (goodIn_of _ (by decide +kernel)) ggX5_text_X5_makeItem
theorem dX5_text_0 : decode cX5_text 0 = .ok (.aload_n 0, 1) := by decide +kernel
theorem dX5_text_1 : decode cX5_text 1 = .ok (.aload_n 0, 1) := by decide +kernel
theorem dX5_text_2 : decode cX5_text 2 = .ok (.getfield 20, 3) := by decide +kernel
theorem dX5_text_5 : decode cX5_text 5 = .ok (.iload_n 1, 1) := by decide +kernel
theorem dX5_text_6 : decode cX5_text 6 = .ok (.iload_n 2, 1) := by decide +kernel
theorem dX5_text_7 : decode cX5_text 7 = .ok (.bipush 60, 2) := by decide +kernel
theorem dX5_text_9 : decode cX5_text 9 = .ok (.bipush 32, 2) := by decide +kernel
theorem dX5_text_11 : decode cX5_text 11 = .ok (.invokevirtual 59, 3) := by decide +kernel
theorem dX5_text_14 : decode cX5_text 14 = .ok (.ireturn, 1) := by decide +kernel
set_option maxRecDepth 20000 in
theorem ggX5_put_X5_refusalOfCell : GoodIn wsX5_put wsX5_refusalOfCell := goodIn_r _ [6, 7, 8, 9, 5, 10, 11, 12, 13, 14, 15, 16, 17, 18, 19, 20, 21, 22, 23, 24, 25, 26, 27, 28, 29, 30, 31, 32, 33, 34, 35, 36, 37, 38, 39, 40, 41, 42, 68, 69, 56, 57, 58, 59, 60, 61, 62, 63, 64, 65, 66, 67] (by decide +kernel) (by decide +kernel)
set_option maxRecDepth 20000 in
theorem gX5_put_X5_refusalOfCell : GoodIn wsX5_put (wsV RX5 63 RX5 yX5_refusalOfCell wsX5_refusalOfCell) := goodIn_app (goodIn_of _ (by decide +kernel)) ggX5_put_X5_refusalOfCell
set_option maxRecDepth 20000 in
theorem ggX5_put_X4_cell : GoodIn wsX5_put wsX4_cell := goodIn_r _ [46, 47, 40, 41, 14, 42, 22, 23, 24, 25, 16, 26, 12, 13, 15, 17, 48, 49, 50, 51, 34, 5, 35, 68, 69] (by decide +kernel) (by decide +kernel)
set_option maxRecDepth 20000 in
theorem gX5_put_X4_cell : GoodIn wsX5_put (wsV RX5 67 RX4 yX4_cell wsX4_cell) := goodIn_app (goodIn_of _ (by decide +kernel)) ggX5_put_X4_cell
set_option maxRecDepth 20000 in
theorem ggX5_put_X4_setCell : GoodIn wsX5_put wsX4_setCell := goodIn_r _ [55, 47, 40, 41, 14, 42, 22, 23, 24, 25, 16, 26, 12, 13, 15, 17, 48, 49, 50, 51, 37, 5, 38, 68, 69] (by decide +kernel) (by decide +kernel)
set_option maxRecDepth 20000 in
theorem gX5_put_X4_setCell : GoodIn wsX5_put (wsV RX5 75 RX4 yX4_setCell wsX4_setCell) := goodIn_app (goodIn_of _ (by decide +kernel)) ggX5_put_X4_setCell
theorem dX5_put_0 : decode cX5_put 0 = .ok (.aload_n 0, 1) := by decide +kernel
theorem dX5_put_1 : decode cX5_put 1 = .ok (.aload_n 0, 1) := by decide +kernel
theorem dX5_put_2 : decode cX5_put 2 = .ok (.getfield 20, 3) := by decide +kernel
theorem dX5_put_5 : decode cX5_put 5 = .ok (.iload_n 1, 1) := by decide +kernel
theorem dX5_put_6 : decode cX5_put 6 = .ok (.iload_n 2, 1) := by decide +kernel
theorem dX5_put_7 : decode cX5_put 7 = .ok (.invokevirtual 63, 3) := by decide +kernel
theorem dX5_put_10 : decode cX5_put 10 = .ok (.istore 4, 2) := by decide +kernel
theorem dX5_put_12 : decode cX5_put 12 = .ok (.iload 4, 2) := by decide +kernel
theorem dX5_put_14 : decode cX5_put 14 = .ok (.ifCond .eq 6, 3) := by decide +kernel
theorem dX5_put_17 : decode cX5_put 17 = .ok (.iload 4, 2) := by decide +kernel
theorem dX5_put_19 : decode cX5_put 19 = .ok (.ireturn, 1) := by decide +kernel
theorem dX5_put_20 : decode cX5_put 20 = .ok (.aload_n 0, 1) := by decide +kernel
theorem dX5_put_21 : decode cX5_put 21 = .ok (.getfield 20, 3) := by decide +kernel
theorem dX5_put_24 : decode cX5_put 24 = .ok (.iload_n 1, 1) := by decide +kernel
theorem dX5_put_25 : decode cX5_put 25 = .ok (.iload_n 2, 1) := by decide +kernel
theorem dX5_put_26 : decode cX5_put 26 = .ok (.invokevirtual 67, 3) := by decide +kernel
theorem dX5_put_29 : decode cX5_put 29 = .ok (.istore 5, 2) := by decide +kernel
theorem dX5_put_31 : decode cX5_put 31 = .ok (.aload_n 0, 1) := by decide +kernel
theorem dX5_put_32 : decode cX5_put 32 = .ok (.getfield 20, 3) := by decide +kernel
theorem dX5_put_35 : decode cX5_put 35 = .ok (.iload_n 1, 1) := by decide +kernel
theorem dX5_put_36 : decode cX5_put 36 = .ok (.iload_n 2, 1) := by decide +kernel
theorem dX5_put_37 : decode cX5_put 37 = .ok (.iload_n 3, 1) := by decide +kernel
theorem dX5_put_38 : decode cX5_put 38 = .ok (.i2b, 1) := by decide +kernel
theorem dX5_put_39 : decode cX5_put 39 = .ok (.invokevirtual 75, 3) := by decide +kernel
theorem dX5_put_42 : decode cX5_put 42 = .ok (.iload 5, 2) := by decide +kernel
theorem dX5_put_44 : decode cX5_put 44 = .ok (.sipush 1000, 3) := by decide +kernel
theorem dX5_put_47 : decode cX5_put 47 = .ok (.iadd, 1) := by decide +kernel
theorem dX5_put_48 : decode cX5_put 48 = .ok (.ireturn, 1) := by decide +kernel
set_option maxRecDepth 20000 in
theorem ggX5_fault_X5_refusalOfItem : GoodIn wsX5_fault wsX5_refusalOfItem := goodIn_r _ [6, 7, 8, 9, 10, 11, 12, 13, 14, 15, 16, 17, 18, 19, 20, 21, 22, 23, 24, 25, 5, 26, 27, 28, 29, 30, 31, 32, 33, 34, 112, 113, 100, 101, 102, 103, 104, 105, 106, 107, 108, 109, 110, 111] (by decide +kernel) (by decide +kernel)
set_option maxRecDepth 20000 in
theorem gX5_fault_X5_refusalOfItem : GoodIn wsX5_fault (wsV RX5 79 RX5 yX5_refusalOfItem wsX5_refusalOfItem) := goodIn_app (goodIn_of _ (by decide +kernel)) ggX5_fault_X5_refusalOfItem
set_option maxRecDepth 20000 in
theorem ggX5_fault_X5_faultOf : GoodIn wsX5_fault wsX5_faultOf := goodIn_r _ [38, 39, 1, 40, 41, 42, 10, 43, 13, 22, 8, 9, 11, 12, 44, 19, 20, 21, 45, 46, 47, 48, 49, 50, 51, 52, 53, 54, 55, 56, 57, 58, 59, 60, 61, 62, 63, 64, 65, 66, 67, 68, 69, 70, 71, 72, 73, 74, 75, 30, 5, 31, 76, 77, 78, 79, 80, 81, 82, 83, 33, 34, 84, 85, 86, 87, 88, 89, 90, 91, 92, 93, 94, 95, 96, 97, 98, 99, 100, 101, 102, 103, 104, 105, 106, 107, 108, 109, 110, 111, 112, 113, 114, 115, 116, 117, 118, 119, 120, 121, 122, 123, 124, 125, 126, 127, 128, 129, 130, 131, 132] (by decide +kernel) (by decide +kernel)
set_option maxRecDepth 20000 in
theorem gX5_fault_X5_faultOf : GoodIn wsX5_fault (wsV RX5 109 RX5 yX5_faultOf wsX5_faultOf) := goodIn_app (goodIn_of _ (by decide +kernel)) ggX5_fault_X5_faultOf
theorem dX5_fault_0 : decode cX5_fault 0 = .ok (.aload_n 0, 1) := by decide +kernel
theorem dX5_fault_1 : decode cX5_fault 1 = .ok (.aload_n 0, 1) := by decide +kernel
theorem dX5_fault_2 : decode cX5_fault 2 = .ok (.getfield 20, 3) := by decide +kernel
theorem dX5_fault_5 : decode cX5_fault 5 = .ok (.iload_n 1, 1) := by decide +kernel
theorem dX5_fault_6 : decode cX5_fault 6 = .ok (.invokevirtual 79, 3) := by decide +kernel
theorem dX5_fault_9 : decode cX5_fault 9 = .ok (.istore_n 2, 1) := by decide +kernel
theorem dX5_fault_10 : decode cX5_fault 10 = .ok (.iload_n 2, 1) := by decide +kernel
theorem dX5_fault_11 : decode cX5_fault 11 = .ok (.ifCond .eq 7, 3) := by decide +kernel
theorem dX5_fault_14 : decode cX5_fault 14 = .ok (.iload_n 2, 1) := by decide +kernel
theorem dX5_fault_15 : decode cX5_fault 15 = .ok (.goto 8, 3) := by decide +kernel
theorem dX5_fault_18 : decode cX5_fault 18 = .ok (.aload_n 0, 1) := by decide +kernel
theorem dX5_fault_19 : decode cX5_fault 19 = .ok (.iload_n 1, 1) := by decide +kernel
theorem dX5_fault_20 : decode cX5_fault 20 = .ok (.invokevirtual 109, 3) := by decide +kernel
theorem dX5_fault_23 : decode cX5_fault 23 = .ok (.ireturn, 1) := by decide +kernel
set_option maxRecDepth 20000 in
theorem ggX5_delta_X5_refusalOfItem : GoodIn wsX5_delta wsX5_refusalOfItem := goodIn_r _ [9, 10, 11, 12, 13, 14, 15, 16, 17, 18, 19, 20, 21, 22, 23, 24, 25, 26, 27, 28, 8, 29, 30, 31, 32, 33, 34, 35, 36, 37, 161, 162, 130, 131, 132, 133, 134, 135, 136, 137, 138, 139, 140, 141] (by decide +kernel) (by decide +kernel)
set_option maxRecDepth 20000 in
theorem gX5_delta_X5_refusalOfItem : GoodIn wsX5_delta (wsV RX5 79 RX5 yX5_refusalOfItem wsX5_refusalOfItem) := goodIn_app (goodIn_of _ (by decide +kernel)) ggX5_delta_X5_refusalOfItem
set_option maxRecDepth 20000 in
theorem ggX5_delta_X5_faultOf : GoodIn wsX5_delta wsX5_faultOf := goodIn_r _ [41, 3, 1, 42, 43, 44, 13, 45, 16, 25, 11, 12, 14, 15, 46, 22, 23, 24, 47, 48, 49, 50, 51, 52, 53, 54, 55, 56, 57, 58, 59, 60, 61, 62, 63, 64, 65, 66, 67, 68, 69, 70, 71, 72, 73, 74, 75, 76, 77, 33, 8, 34, 78, 79, 80, 81, 82, 83, 84, 85, 36, 37, 86, 87, 88, 89, 90, 91, 92, 93, 94, 95, 96, 97, 98, 99, 100, 101, 130, 131, 132, 133, 134, 135, 136, 137, 138, 139, 140, 141, 161, 162, 142, 143, 144, 145, 146, 147, 148, 149, 150, 151, 152, 153, 154, 155, 156, 157, 158, 159, 160] (by decide +kernel) (by decide +kernel)
set_option maxRecDepth 20000 in
theorem gX5_delta_X5_faultOf : GoodIn wsX5_delta (wsV RX5 109 RX5 yX5_faultOf wsX5_faultOf) := goodIn_app (goodIn_of _ (by decide +kernel)) ggX5_delta_X5_faultOf
set_option maxRecDepth 20000 in
theorem ggX5_delta_X0_takeFrom : GoodIn wsX5_delta wsX0_takeFrom := goodIn_r _ [105, 61, 62, 63, 64, 65, 98, 99, 100, 101, 106, 107, 108, 109, 110, 111, 112, 8, 113, 114, 115, 116, 117, 118, 119, 120, 121, 122, 123, 124, 146, 147, 148, 149, 150, 151, 152, 153, 154, 155, 156, 157, 158, 159, 160] (by decide +kernel) (by decide +kernel)
set_option maxRecDepth 20000 in
theorem gX5_delta_X0_takeFrom : GoodIn wsX5_delta (wsV RX5 115 RX0 yX0_takeFrom wsX0_takeFrom) := goodIn_app (goodIn_of _ (by decide +kernel)) ggX5_delta_X0_takeFrom
set_option maxRecDepth 20000 in
theorem ggX5_delta_X5_keptAt : GoodIn wsX5_delta wsX5_keptAt := goodIn_r _ [128, 4, 130, 131, 132, 133, 134, 135, 136, 137, 138, 139, 140, 141] (by decide +kernel) (by decide +kernel)
set_option maxRecDepth 20000 in
theorem gX5_delta_X5_keptAt : GoodIn wsX5_delta (wsV RX5 119 RX5 yX5_keptAt wsX5_keptAt) := goodIn_app (goodIn_of _ (by decide +kernel)) ggX5_delta_X5_keptAt
set_option maxRecDepth 20000 in
theorem ggX5_delta_X0_clear : GoodIn wsX5_delta wsX0_clear := goodIn_r _ [60, 61, 62, 63, 64, 65, 66, 67, 68, 69, 146, 147, 148, 149, 150, 151, 152, 153, 154, 155, 156, 157, 158, 159, 160] (by decide +kernel) (by decide +kernel)
set_option maxRecDepth 20000 in
theorem gX5_delta_X0_clear : GoodIn wsX5_delta (wsV RX5 123 RX0 yX0_clear wsX0_clear) := goodIn_app (goodIn_of _ (by decide +kernel)) ggX5_delta_X0_clear
theorem dX5_delta_0 : decode cX5_delta 0 = .ok (.aload_n 0, 1) := by decide +kernel
theorem dX5_delta_1 : decode cX5_delta 1 = .ok (.aload_n 0, 1) := by decide +kernel
theorem dX5_delta_2 : decode cX5_delta 2 = .ok (.getfield 20, 3) := by decide +kernel
theorem dX5_delta_5 : decode cX5_delta 5 = .ok (.iload_n 1, 1) := by decide +kernel
theorem dX5_delta_6 : decode cX5_delta 6 = .ok (.invokevirtual 79, 3) := by decide +kernel
theorem dX5_delta_9 : decode cX5_delta 9 = .ok (.istore_n 2, 1) := by decide +kernel
theorem dX5_delta_10 : decode cX5_delta 10 = .ok (.iload_n 2, 1) := by decide +kernel
theorem dX5_delta_11 : decode cX5_delta 11 = .ok (.ifCond .eq 5, 3) := by decide +kernel
theorem dX5_delta_14 : decode cX5_delta 14 = .ok (.iload_n 2, 1) := by decide +kernel
theorem dX5_delta_15 : decode cX5_delta 15 = .ok (.ireturn, 1) := by decide +kernel
theorem dX5_delta_16 : decode cX5_delta 16 = .ok (.aload_n 0, 1) := by decide +kernel
theorem dX5_delta_17 : decode cX5_delta 17 = .ok (.iload_n 1, 1) := by decide +kernel
theorem dX5_delta_18 : decode cX5_delta 18 = .ok (.invokevirtual 109, 3) := by decide +kernel
theorem dX5_delta_21 : decode cX5_delta 21 = .ok (.bipush (-9), 2) := by decide +kernel
theorem dX5_delta_23 : decode cX5_delta 23 = .ok (.if_icmp .eq 6, 3) := by decide +kernel
theorem dX5_delta_26 : decode cX5_delta 26 = .ok (.bipush (-4), 2) := by decide +kernel
theorem dX5_delta_28 : decode cX5_delta 28 = .ok (.ireturn, 1) := by decide +kernel
theorem dX5_delta_29 : decode cX5_delta 29 = .ok (.aload_n 0, 1) := by decide +kernel
theorem dX5_delta_30 : decode cX5_delta 30 = .ok (.getfield 33, 3) := by decide +kernel
theorem dX5_delta_33 : decode cX5_delta 33 = .ok (.aload_n 0, 1) := by decide +kernel
theorem dX5_delta_34 : decode cX5_delta 34 = .ok (.getfield 26, 3) := by decide +kernel
theorem dX5_delta_37 : decode cX5_delta 37 = .ok (.getfield 112, 3) := by decide +kernel
theorem dX5_delta_40 : decode cX5_delta 40 = .ok (.invokevirtual 115, 3) := by decide +kernel
theorem dX5_delta_43 : decode cX5_delta 43 = .ok (.iconst 0, 1) := by decide +kernel
theorem dX5_delta_44 : decode cX5_delta 44 = .ok (.istore_n 3, 1) := by decide +kernel
theorem dX5_delta_45 : decode cX5_delta 45 = .ok (.iload_n 3, 1) := by decide +kernel
theorem dX5_delta_46 : decode cX5_delta 46 = .ok (.aload_n 0, 1) := by decide +kernel
theorem dX5_delta_47 : decode cX5_delta 47 = .ok (.getfield 37, 3) := by decide +kernel
theorem dX5_delta_50 : decode cX5_delta 50 = .ok (.arraylength, 1) := by decide +kernel
theorem dX5_delta_51 : decode cX5_delta 51 = .ok (.if_icmp .ge 26, 3) := by decide +kernel
theorem dX5_delta_54 : decode cX5_delta 54 = .ok (.aload_n 0, 1) := by decide +kernel
theorem dX5_delta_55 : decode cX5_delta 55 = .ok (.iload_n 3, 1) := by decide +kernel
theorem dX5_delta_56 : decode cX5_delta 56 = .ok (.invokevirtual 119, 3) := by decide +kernel
theorem dX5_delta_59 : decode cX5_delta 59 = .ok (.astore 4, 2) := by decide +kernel
theorem dX5_delta_61 : decode cX5_delta 61 = .ok (.aload 4, 2) := by decide +kernel
theorem dX5_delta_63 : decode cX5_delta 63 = .ok (.ifnull 8, 3) := by decide +kernel
theorem dX5_delta_66 : decode cX5_delta 66 = .ok (.aload 4, 2) := by decide +kernel
theorem dX5_delta_68 : decode cX5_delta 68 = .ok (.invokevirtual 123, 3) := by decide +kernel
theorem dX5_delta_71 : decode cX5_delta 71 = .ok (.iinc 3 1, 3) := by decide +kernel
theorem dX5_delta_74 : decode cX5_delta 74 = .ok (.goto (-29), 3) := by decide +kernel
theorem dX5_delta_77 : decode cX5_delta 77 = .ok (.aload_n 0, 1) := by decide +kernel
theorem dX5_delta_78 : decode cX5_delta 78 = .ok (.getfield 33, 3) := by decide +kernel
theorem dX5_delta_81 : decode cX5_delta 81 = .ok (.getfield 126, 3) := by decide +kernel
theorem dX5_delta_84 : decode cX5_delta 84 = .ok (.ireturn, 1) := by decide +kernel
set_option maxRecDepth 20000 in
theorem ggX5_woman_X5_isWoman : GoodIn wsX5_woman wsX5_isWoman := goodIn_r _ [6, 7, 46, 47, 48, 49, 50, 51, 52, 53, 54, 55, 56, 57, 58, 59, 60, 61, 62, 63, 64, 65, 66, 67, 68, 69, 70, 71, 72] (by decide +kernel) (by decide +kernel)
set_option maxRecDepth 20000 in
theorem gX5_woman_X5_isWoman : GoodIn wsX5_woman (wsV RX5 129 RX5 yX5_isWoman wsX5_isWoman) := goodIn_app (goodIn_of _ (by decide +kernel)) ggX5_woman_X5_isWoman
set_option maxRecDepth 20000 in
theorem ggX5_woman_X5_womanFact : GoodIn wsX5_woman wsX5_womanFact := goodIn_r _ [11, 7, 12, 13, 5, 14, 15, 16, 17, 18, 19, 20, 21, 22, 23, 24, 25, 26, 27, 28, 29, 30, 31, 32, 33, 34, 35, 36, 37, 38, 39, 40, 41, 42, 43, 44, 45, 46, 47, 48, 49, 50, 51, 52, 53, 54, 55, 56, 57, 58, 59, 60, 61, 62, 63, 64, 65, 66, 67, 68, 69, 70, 71, 72] (by decide +kernel) (by decide +kernel)
set_option maxRecDepth 20000 in
theorem gX5_woman_X5_womanFact : GoodIn wsX5_woman (wsV RX5 132 RX5 yX5_womanFact wsX5_womanFact) := goodIn_app (goodIn_of _ (by decide +kernel)) ggX5_woman_X5_womanFact
theorem dX5_woman_0 : decode cX5_woman 0 = .ok (.aload_n 0, 1) := by decide +kernel
theorem dX5_woman_1 : decode cX5_woman 1 = .ok (.iload_n 1, 1) := by decide +kernel
theorem dX5_woman_2 : decode cX5_woman 2 = .ok (.invokevirtual 129, 3) := by decide +kernel
theorem dX5_woman_5 : decode cX5_woman 5 = .ok (.ifCond .eq 13, 3) := by decide +kernel
theorem dX5_woman_8 : decode cX5_woman 8 = .ok (.iload_n 2, 1) := by decide +kernel
theorem dX5_woman_9 : decode cX5_woman 9 = .ok (.ifCond .lt 9, 3) := by decide +kernel
theorem dX5_woman_12 : decode cX5_woman 12 = .ok (.iload_n 2, 1) := by decide +kernel
theorem dX5_woman_13 : decode cX5_woman 13 = .ok (.bipush 6, 2) := by decide +kernel
theorem dX5_woman_15 : decode cX5_woman 15 = .ok (.if_icmp .lt 5, 3) := by decide +kernel
theorem dX5_woman_18 : decode cX5_woman 18 = .ok (.iconst (-1), 1) := by decide +kernel
theorem dX5_woman_19 : decode cX5_woman 19 = .ok (.ireturn, 1) := by decide +kernel
theorem dX5_woman_20 : decode cX5_woman 20 = .ok (.aload_n 0, 1) := by decide +kernel
theorem dX5_woman_21 : decode cX5_woman 21 = .ok (.aload_n 0, 1) := by decide +kernel
theorem dX5_woman_22 : decode cX5_woman 22 = .ok (.iload_n 1, 1) := by decide +kernel
theorem dX5_woman_23 : decode cX5_woman 23 = .ok (.iload_n 2, 1) := by decide +kernel
theorem dX5_woman_24 : decode cX5_woman 24 = .ok (.invokevirtual 132, 3) := by decide +kernel
theorem dX5_woman_27 : decode cX5_woman 27 = .ok (.putfield 71, 3) := by decide +kernel
theorem dX5_woman_30 : decode cX5_woman 30 = .ok (.iconst 1, 1) := by decide +kernel
theorem dX5_woman_31 : decode cX5_woman 31 = .ok (.ireturn, 1) := by decide +kernel
set_option maxRecDepth 20000 in
theorem ggX5_mark_X5_isWoman : GoodIn wsX5_mark wsX5_isWoman := goodIn_r _ [6, 1, 55, 56, 57, 58, 59, 60, 61, 62, 63, 64, 65, 66, 67, 68, 69, 70, 71, 72, 73, 74, 75, 76, 77, 78, 79, 80, 81] (by decide +kernel) (by decide +kernel)
set_option maxRecDepth 20000 in
theorem gX5_mark_X5_isWoman : GoodIn wsX5_mark (wsV RX5 129 RX5 yX5_isWoman wsX5_isWoman) := goodIn_app (goodIn_of _ (by decide +kernel)) ggX5_mark_X5_isWoman
set_option maxRecDepth 20000 in
theorem ggX5_mark_X5_item : GoodIn wsX5_mark wsX5_item := goodIn_r _ [9] (by decide +kernel) (by decide +kernel)
set_option maxRecDepth 20000 in
theorem gX5_mark_X5_item : GoodIn wsX5_mark (va_wsS RX5 138 yX5_item wsX5_item) := goodIn_app (goodIn_of _ (by decide +kernel)) ggX5_mark_X5_item
set_option maxRecDepth 20000 in
theorem ggX5_mark_X2_isOf : GoodIn wsX5_mark wsX2_isOf := goodIn_r _ [13] (by decide +kernel) (by decide +kernel)
set_option maxRecDepth 20000 in
theorem gX5_mark_X2_isOf : GoodIn wsX5_mark (va_wsS RX5 142 yX2_isOf wsX2_isOf) := goodIn_app (goodIn_of _ (by decide +kernel)) ggX5_mark_X2_isOf
set_option maxRecDepth 20000 in
theorem ggX5_mark_X5_found : GoodIn wsX5_mark wsX5_found := goodIn_r _ [17, 18, 19, 7, 8, 5, 9, 20, 21, 22, 55, 56, 57, 58, 59, 60, 61, 62, 63, 64, 65, 66] (by decide +kernel) (by decide +kernel)
set_option maxRecDepth 20000 in
theorem gX5_mark_X5_found : GoodIn wsX5_mark (wsV RX5 91 RX5 yX5_found wsX5_found) := goodIn_app (goodIn_of _ (by decide +kernel)) ggX5_mark_X5_found
set_option maxRecDepth 20000 in
theorem ggX5_mark_X0_hemOf : GoodIn wsX5_mark wsX0_hemOf := goodIn_r _ [27, 28, 29, 8, 5, 9, 30, 31, 32, 26, 33, 34, 35, 36, 37, 38, 39, 40, 41, 42, 12, 43, 44, 45, 46, 47, 67, 68, 69, 70, 71, 72, 73, 74, 75, 76, 77, 78, 79, 80, 81] (by decide +kernel) (by decide +kernel)
set_option maxRecDepth 20000 in
theorem gX5_mark_X0_hemOf : GoodIn wsX5_mark (wsV RX5 151 RX0 yX0_hemOf wsX0_hemOf) := goodIn_app (goodIn_of _ (by decide +kernel)) ggX5_mark_X0_hemOf
set_option maxRecDepth 20000 in
theorem ggX5_mark_X0_plainHemOf : GoodIn wsX5_mark wsX0_plainHemOf := goodIn_r _ [51, 28, 8, 5, 9, 30, 31, 32, 26, 33, 34, 35, 36, 37, 38, 39, 40, 41, 42, 12, 43, 44, 45, 46, 47, 67, 68, 69, 70, 71, 72, 73, 74, 75, 76, 77, 78, 79, 80, 81] (by decide +kernel) (by decide +kernel)
set_option maxRecDepth 20000 in
theorem gX5_mark_X0_plainHemOf : GoodIn wsX5_mark (wsV RX5 154 RX0 yX0_plainHemOf wsX0_plainHemOf) := goodIn_app (goodIn_of _ (by decide +kernel)) ggX5_mark_X0_plainHemOf
set_option maxRecDepth 20000 in
theorem ggX5_mark_X2_markOf : GoodIn wsX5_mark wsX2_markOf := goodIn_r _ [54] (by decide +kernel) (by decide +kernel)
set_option maxRecDepth 20000 in
theorem gX5_mark_X2_markOf : GoodIn wsX5_mark (va_wsS RX5 157 yX2_markOf wsX2_markOf) := goodIn_app (goodIn_of _ (by decide +kernel)) ggX5_mark_X2_markOf
theorem dX5_mark_0 : decode cX5_mark 0 = .ok (.aload_n 0, 1) := by decide +kernel
theorem dX5_mark_1 : decode cX5_mark 1 = .ok (.iload_n 1, 1) := by decide +kernel
theorem dX5_mark_2 : decode cX5_mark 2 = .ok (.invokevirtual 129, 3) := by decide +kernel
theorem dX5_mark_5 : decode cX5_mark 5 = .ok (.ifCond .eq 13, 3) := by decide +kernel
theorem dX5_mark_8 : decode cX5_mark 8 = .ok (.iload_n 2, 1) := by decide +kernel
theorem dX5_mark_9 : decode cX5_mark 9 = .ok (.ifCond .le 9, 3) := by decide +kernel
theorem dX5_mark_12 : decode cX5_mark 12 = .ok (.iload_n 2, 1) := by decide +kernel
theorem dX5_mark_13 : decode cX5_mark 13 = .ok (.bipush 6, 2) := by decide +kernel
theorem dX5_mark_15 : decode cX5_mark 15 = .ok (.if_icmp .lt 5, 3) := by decide +kernel
theorem dX5_mark_18 : decode cX5_mark 18 = .ok (.iconst (-1), 1) := by decide +kernel
theorem dX5_mark_19 : decode cX5_mark 19 = .ok (.ireturn, 1) := by decide +kernel
theorem dX5_mark_20 : decode cX5_mark 20 = .ok (.aload_n 0, 1) := by decide +kernel
theorem dX5_mark_21 : decode cX5_mark 21 = .ok (.getfield 33, 3) := by decide +kernel
theorem dX5_mark_24 : decode cX5_mark 24 = .ok (.getfield 135, 3) := by decide +kernel
theorem dX5_mark_27 : decode cX5_mark 27 = .ok (.iload_n 1, 1) := by decide +kernel
theorem dX5_mark_28 : decode cX5_mark 28 = .ok (.invokestatic 138, 3) := by decide +kernel
theorem dX5_mark_31 : decode cX5_mark 31 = .ok (.iload_n 2, 1) := by decide +kernel
theorem dX5_mark_32 : decode cX5_mark 32 = .ok (.invokestatic 142, 3) := by decide +kernel
theorem dX5_mark_35 : decode cX5_mark 35 = .ok (.ifCond .ne 9, 3) := by decide +kernel
theorem dX5_mark_38 : decode cX5_mark 38 = .ok (.aload_n 0, 1) := by decide +kernel
theorem dX5_mark_39 : decode cX5_mark 39 = .ok (.iconst 3, 1) := by decide +kernel
theorem dX5_mark_40 : decode cX5_mark 40 = .ok (.invokevirtual 91, 3) := by decide +kernel
theorem dX5_mark_43 : decode cX5_mark 43 = .ok (.ireturn, 1) := by decide +kernel
theorem dX5_mark_44 : decode cX5_mark 44 = .ok (.iload_n 2, 1) := by decide +kernel
theorem dX5_mark_45 : decode cX5_mark 45 = .ok (.iconst 5, 1) := by decide +kernel
theorem dX5_mark_46 : decode cX5_mark 46 = .ok (.if_icmp .ne 13, 3) := by decide +kernel
theorem dX5_mark_49 : decode cX5_mark 49 = .ok (.aload_n 0, 1) := by decide +kernel
theorem dX5_mark_50 : decode cX5_mark 50 = .ok (.getfield 33, 3) := by decide +kernel
theorem dX5_mark_53 : decode cX5_mark 53 = .ok (.getfield 148, 3) := by decide +kernel
theorem dX5_mark_56 : decode cX5_mark 56 = .ok (.iconst 1, 1) := by decide +kernel
theorem dX5_mark_57 : decode cX5_mark 57 = .ok (.iand, 1) := by decide +kernel
theorem dX5_mark_58 : decode cX5_mark 58 = .ok (.ireturn, 1) := by decide +kernel
theorem dX5_mark_59 : decode cX5_mark 59 = .ok (.iconst 0, 1) := by decide +kernel
theorem dX5_mark_60 : decode cX5_mark 60 = .ok (.istore_n 3, 1) := by decide +kernel
theorem dX5_mark_61 : decode cX5_mark 61 = .ok (.iconst 0, 1) := by decide +kernel
theorem dX5_mark_62 : decode cX5_mark 62 = .ok (.istore 4, 2) := by decide +kernel
theorem dX5_mark_64 : decode cX5_mark 64 = .ok (.iload 4, 2) := by decide +kernel
theorem dX5_mark_66 : decode cX5_mark 66 = .ok (.aload_n 0, 1) := by decide +kernel
theorem dX5_mark_67 : decode cX5_mark 67 = .ok (.getfield 33, 3) := by decide +kernel
theorem dX5_mark_70 : decode cX5_mark 70 = .ok (.getfield 148, 3) := by decide +kernel
theorem dX5_mark_73 : decode cX5_mark 73 = .ok (.if_icmp .ge 37, 3) := by decide +kernel
theorem dX5_mark_76 : decode cX5_mark 76 = .ok (.iload_n 3, 1) := by decide +kernel
theorem dX5_mark_77 : decode cX5_mark 77 = .ok (.iload_n 2, 1) := by decide +kernel
theorem dX5_mark_78 : decode cX5_mark 78 = .ok (.aload_n 0, 1) := by decide +kernel
theorem dX5_mark_79 : decode cX5_mark 79 = .ok (.getfield 33, 3) := by decide +kernel
theorem dX5_mark_82 : decode cX5_mark 82 = .ok (.iload_n 1, 1) := by decide +kernel
theorem dX5_mark_83 : decode cX5_mark 83 = .ok (.iload 4, 2) := by decide +kernel
theorem dX5_mark_85 : decode cX5_mark 85 = .ok (.invokevirtual 151, 3) := by decide +kernel
theorem dX5_mark_88 : decode cX5_mark 88 = .ok (.aload_n 0, 1) := by decide +kernel
theorem dX5_mark_89 : decode cX5_mark 89 = .ok (.getfield 33, 3) := by decide +kernel
theorem dX5_mark_92 : decode cX5_mark 92 = .ok (.iload_n 1, 1) := by decide +kernel
theorem dX5_mark_93 : decode cX5_mark 93 = .ok (.iload 4, 2) := by decide +kernel
theorem dX5_mark_95 : decode cX5_mark 95 = .ok (.invokevirtual 154, 3) := by decide +kernel
theorem dX5_mark_98 : decode cX5_mark 98 = .ok (.isub, 1) := by decide +kernel
theorem dX5_mark_99 : decode cX5_mark 99 = .ok (.invokestatic 157, 3) := by decide +kernel
theorem dX5_mark_102 : decode cX5_mark 102 = .ok (.iadd, 1) := by decide +kernel
theorem dX5_mark_103 : decode cX5_mark 103 = .ok (.istore_n 3, 1) := by decide +kernel
theorem dX5_mark_104 : decode cX5_mark 104 = .ok (.iinc 4 1, 3) := by decide +kernel
theorem dX5_mark_107 : decode cX5_mark 107 = .ok (.goto (-43), 3) := by decide +kernel
theorem dX5_mark_110 : decode cX5_mark 110 = .ok (.iload_n 3, 1) := by decide +kernel
theorem dX5_mark_111 : decode cX5_mark 111 = .ok (.ireturn, 1) := by decide +kernel
set_option maxRecDepth 20000 in
theorem ggX5_hem_X5_isWoman : GoodIn wsX5_hem wsX5_isWoman := goodIn_r _ [6, 1, 39, 40, 41, 42, 43, 44, 45, 46, 47, 48, 49, 50, 51, 52, 53, 54, 55, 56, 57, 58, 59, 60, 61, 62, 63, 64, 65] (by decide +kernel) (by decide +kernel)
set_option maxRecDepth 20000 in
theorem gX5_hem_X5_isWoman : GoodIn wsX5_hem (wsV RX5 129 RX5 yX5_isWoman wsX5_isWoman) := goodIn_app (goodIn_of _ (by decide +kernel)) ggX5_hem_X5_isWoman
set_option maxRecDepth 20000 in
theorem ggX5_hem_X5_isPast : GoodIn wsX5_hem wsX5_isPast := goodIn_r _ [10, 1, 39, 40, 41, 42, 43, 44, 45, 46, 47, 48, 49, 50, 51, 52, 53, 54, 55, 56, 57, 58, 59, 60, 61, 62, 63, 64, 65] (by decide +kernel) (by decide +kernel)
set_option maxRecDepth 20000 in
theorem gX5_hem_X5_isPast : GoodIn wsX5_hem (wsV RX5 160 RX5 yX5_isPast wsX5_isPast) := goodIn_app (goodIn_of _ (by decide +kernel)) ggX5_hem_X5_isPast
set_option maxRecDepth 20000 in
theorem ggX5_hem_X0_hemOf : GoodIn wsX5_hem wsX0_hemOf := goodIn_r _ [15, 16, 17, 18, 5, 19, 20, 21, 22, 14, 23, 24, 25, 26, 27, 28, 29, 30, 31, 32, 33, 34, 35, 36, 37, 38, 51, 52, 53, 54, 55, 56, 57, 58, 59, 60, 61, 62, 63, 64, 65] (by decide +kernel) (by decide +kernel)
set_option maxRecDepth 20000 in
theorem gX5_hem_X0_hemOf : GoodIn wsX5_hem (wsV RX5 151 RX0 yX0_hemOf wsX0_hemOf) := goodIn_app (goodIn_of _ (by decide +kernel)) ggX5_hem_X0_hemOf
theorem dX5_hem_0 : decode cX5_hem 0 = .ok (.aload_n 0, 1) := by decide +kernel
theorem dX5_hem_1 : decode cX5_hem 1 = .ok (.iload_n 1, 1) := by decide +kernel
theorem dX5_hem_2 : decode cX5_hem 2 = .ok (.invokevirtual 129, 3) := by decide +kernel
theorem dX5_hem_5 : decode cX5_hem 5 = .ok (.ifCond .eq 23, 3) := by decide +kernel
theorem dX5_hem_8 : decode cX5_hem 8 = .ok (.aload_n 0, 1) := by decide +kernel
theorem dX5_hem_9 : decode cX5_hem 9 = .ok (.iload_n 2, 1) := by decide +kernel
theorem dX5_hem_10 : decode cX5_hem 10 = .ok (.invokevirtual 160, 3) := by decide +kernel
theorem dX5_hem_13 : decode cX5_hem 13 = .ok (.ifCond .eq 15, 3) := by decide +kernel
theorem dX5_hem_16 : decode cX5_hem 16 = .ok (.aload_n 0, 1) := by decide +kernel
theorem dX5_hem_17 : decode cX5_hem 17 = .ok (.getfield 33, 3) := by decide +kernel
theorem dX5_hem_20 : decode cX5_hem 20 = .ok (.iload_n 1, 1) := by decide +kernel
theorem dX5_hem_21 : decode cX5_hem 21 = .ok (.iload_n 2, 1) := by decide +kernel
theorem dX5_hem_22 : decode cX5_hem 22 = .ok (.invokevirtual 151, 3) := by decide +kernel
theorem dX5_hem_25 : decode cX5_hem 25 = .ok (.goto 4, 3) := by decide +kernel
theorem dX5_hem_28 : decode cX5_hem 28 = .ok (.iconst (-1), 1) := by decide +kernel
theorem dX5_hem_29 : decode cX5_hem 29 = .ok (.ireturn, 1) := by decide +kernel
set_option maxRecDepth 20000 in
theorem ggX5_would_X5_isWoman : GoodIn wsX5_would wsX5_isWoman := goodIn_r _ [6, 1, 43, 44, 45, 46, 47, 48, 49, 50, 51, 52, 53, 54, 55, 56, 57, 58, 59, 60, 61, 62, 63, 64, 65, 66, 67, 68, 69] (by decide +kernel) (by decide +kernel)
set_option maxRecDepth 20000 in
theorem gX5_would_X5_isWoman : GoodIn wsX5_would (wsV RX5 129 RX5 yX5_isWoman wsX5_isWoman) := goodIn_app (goodIn_of _ (by decide +kernel)) ggX5_would_X5_isWoman
set_option maxRecDepth 20000 in
theorem ggX5_would_X5_isHeight : GoodIn wsX5_would wsX5_isHeight := goodIn_r _ [9] (by decide +kernel) (by decide +kernel)
set_option maxRecDepth 20000 in
theorem gX5_would_X5_isHeight : GoodIn wsX5_would (va_wsS RX5 163 yX5_isHeight wsX5_isHeight) := goodIn_app (goodIn_of _ (by decide +kernel)) ggX5_would_X5_isHeight
set_option maxRecDepth 20000 in
theorem ggX5_would_X5_item : GoodIn wsX5_would wsX5_item := goodIn_r _ [12] (by decide +kernel) (by decide +kernel)
set_option maxRecDepth 20000 in
theorem gX5_would_X5_item : GoodIn wsX5_would (va_wsS RX5 138 yX5_item wsX5_item) := goodIn_app (goodIn_of _ (by decide +kernel)) ggX5_would_X5_item
set_option maxRecDepth 20000 in
theorem ggX5_would_X0_hemIfNow : GoodIn wsX5_would wsX0_hemIfNow := goodIn_r _ [17, 18, 19, 20, 21, 22, 23, 16, 24, 25, 26, 27, 28, 29, 30, 31, 32, 33, 34, 11, 5, 12, 35, 36, 37, 38, 39, 40, 41, 42, 55, 56, 57, 58, 59, 60, 61, 62, 63, 64, 65, 66, 67, 68, 69] (by decide +kernel) (by decide +kernel)
set_option maxRecDepth 20000 in
theorem gX5_would_X0_hemIfNow : GoodIn wsX5_would (wsV RX5 166 RX0 yX0_hemIfNow wsX0_hemIfNow) := goodIn_app (goodIn_of _ (by decide +kernel)) ggX5_would_X0_hemIfNow
theorem dX5_would_0 : decode cX5_would 0 = .ok (.aload_n 0, 1) := by decide +kernel
theorem dX5_would_1 : decode cX5_would 1 = .ok (.iload_n 1, 1) := by decide +kernel
theorem dX5_would_2 : decode cX5_would 2 = .ok (.invokevirtual 129, 3) := by decide +kernel
theorem dX5_would_5 : decode cX5_would 5 = .ok (.ifCond .eq 33, 3) := by decide +kernel
theorem dX5_would_8 : decode cX5_would 8 = .ok (.iload_n 2, 1) := by decide +kernel
theorem dX5_would_9 : decode cX5_would 9 = .ok (.invokestatic 163, 3) := by decide +kernel
theorem dX5_would_12 : decode cX5_would 12 = .ok (.ifCond .eq 26, 3) := by decide +kernel
theorem dX5_would_15 : decode cX5_would 15 = .ok (.aload_n 0, 1) := by decide +kernel
theorem dX5_would_16 : decode cX5_would 16 = .ok (.getfield 33, 3) := by decide +kernel
theorem dX5_would_19 : decode cX5_would 19 = .ok (.iload_n 1, 1) := by decide +kernel
theorem dX5_would_20 : decode cX5_would 20 = .ok (.iload_n 2, 1) := by decide +kernel
theorem dX5_would_21 : decode cX5_would 21 = .ok (.aload_n 0, 1) := by decide +kernel
theorem dX5_would_22 : decode cX5_would 22 = .ok (.getfield 33, 3) := by decide +kernel
theorem dX5_would_25 : decode cX5_would 25 = .ok (.getfield 135, 3) := by decide +kernel
theorem dX5_would_28 : decode cX5_would 28 = .ok (.iload_n 1, 1) := by decide +kernel
theorem dX5_would_29 : decode cX5_would 29 = .ok (.invokestatic 138, 3) := by decide +kernel
theorem dX5_would_32 : decode cX5_would 32 = .ok (.invokevirtual 166, 3) := by decide +kernel
theorem dX5_would_35 : decode cX5_would 35 = .ok (.goto 4, 3) := by decide +kernel
theorem dX5_would_38 : decode cX5_would 38 = .ok (.iconst (-1), 1) := by decide +kernel
theorem dX5_would_39 : decode cX5_would 39 = .ok (.ireturn, 1) := by decide +kernel
set_option maxRecDepth 20000 in
theorem ggX5_flood_X5_isHeight : GoodIn wsX5_flood wsX5_isHeight := goodIn_r _ [5] (by decide +kernel) (by decide +kernel)
set_option maxRecDepth 20000 in
theorem gX5_flood_X5_isHeight : GoodIn wsX5_flood (va_wsS RX5 163 yX5_isHeight wsX5_isHeight) := goodIn_app (goodIn_of _ (by decide +kernel)) ggX5_flood_X5_isHeight
set_option maxRecDepth 20000 in
theorem ggX5_flood_X0_doFlood : GoodIn wsX5_flood wsX0_doFlood := goodIn_r _ [10, 11, 12, 13, 14, 15, 16, 17, 18, 19, 9, 20, 21, 22, 23, 24, 25, 4, 26, 27, 28, 29, 30, 31, 32, 33, 34, 59, 60, 61, 62, 63, 64, 65, 66, 67, 68, 69, 70, 71, 72, 73] (by decide +kernel) (by decide +kernel)
set_option maxRecDepth 20000 in
theorem gX5_flood_X0_doFlood : GoodIn wsX5_flood (wsV RX5 173 RX0 yX0_doFlood wsX0_doFlood) := goodIn_app (goodIn_of _ (by decide +kernel)) ggX5_flood_X0_doFlood
set_option maxRecDepth 20000 in
theorem ggX5_flood_X0_howManyWet : GoodIn wsX5_flood wsX0_howManyWet := goodIn_r _ [38, 13, 39, 40, 41, 9, 42, 43, 44, 45, 46, 27, 28, 29, 30, 31, 32, 33, 4, 34, 59, 60, 61, 62, 63, 64, 65, 66, 67, 68, 69, 70, 71, 72, 73] (by decide +kernel) (by decide +kernel)
set_option maxRecDepth 20000 in
theorem gX5_flood_X0_howManyWet : GoodIn wsX5_flood (wsV RX5 176 RX0 yX0_howManyWet wsX0_howManyWet) := goodIn_app (goodIn_of _ (by decide +kernel)) ggX5_flood_X0_howManyWet
theorem dX5_flood_0 : decode cX5_flood 0 = .ok (.iload_n 1, 1) := by decide +kernel
theorem dX5_flood_1 : decode cX5_flood 1 = .ok (.invokestatic 163, 3) := by decide +kernel
theorem dX5_flood_4 : decode cX5_flood 4 = .ok (.ifCond .ne 5, 3) := by decide +kernel
theorem dX5_flood_7 : decode cX5_flood 7 = .ok (.iconst (-1), 1) := by decide +kernel
theorem dX5_flood_8 : decode cX5_flood 8 = .ok (.ireturn, 1) := by decide +kernel
theorem dX5_flood_9 : decode cX5_flood 9 = .ok (.aload_n 0, 1) := by decide +kernel
theorem dX5_flood_10 : decode cX5_flood 10 = .ok (.getfield 33, 3) := by decide +kernel
theorem dX5_flood_13 : decode cX5_flood 13 = .ok (.getfield 126, 3) := by decide +kernel
theorem dX5_flood_16 : decode cX5_flood 16 = .ok (.ifCond .eq 15, 3) := by decide +kernel
theorem dX5_flood_19 : decode cX5_flood 19 = .ok (.aload_n 0, 1) := by decide +kernel
theorem dX5_flood_20 : decode cX5_flood 20 = .ok (.getfield 33, 3) := by decide +kernel
theorem dX5_flood_23 : decode cX5_flood 23 = .ok (.getfield 148, 3) := by decide +kernel
theorem dX5_flood_26 : decode cX5_flood 26 = .ok (.bipush 8, 2) := by decide +kernel
theorem dX5_flood_28 : decode cX5_flood 28 = .ok (.if_icmp .lt 6, 3) := by decide +kernel
theorem dX5_flood_31 : decode cX5_flood 31 = .ok (.bipush (-4), 2) := by decide +kernel
theorem dX5_flood_33 : decode cX5_flood 33 = .ok (.ireturn, 1) := by decide +kernel
theorem dX5_flood_34 : decode cX5_flood 34 = .ok (.aload_n 0, 1) := by decide +kernel
theorem dX5_flood_35 : decode cX5_flood 35 = .ok (.getfield 33, 3) := by decide +kernel
theorem dX5_flood_38 : decode cX5_flood 38 = .ok (.getfield 170, 3) := by decide +kernel
theorem dX5_flood_41 : decode cX5_flood 41 = .ok (.bipush 40, 2) := by decide +kernel
theorem dX5_flood_43 : decode cX5_flood 43 = .ok (.if_icmp .lt 6, 3) := by decide +kernel
theorem dX5_flood_46 : decode cX5_flood 46 = .ok (.bipush (-2), 2) := by decide +kernel
theorem dX5_flood_48 : decode cX5_flood 48 = .ok (.ireturn, 1) := by decide +kernel
theorem dX5_flood_49 : decode cX5_flood 49 = .ok (.aload_n 0, 1) := by decide +kernel
theorem dX5_flood_50 : decode cX5_flood 50 = .ok (.getfield 33, 3) := by decide +kernel
theorem dX5_flood_53 : decode cX5_flood 53 = .ok (.iload_n 1, 1) := by decide +kernel
theorem dX5_flood_54 : decode cX5_flood 54 = .ok (.invokevirtual 173, 3) := by decide +kernel
theorem dX5_flood_57 : decode cX5_flood 57 = .ok (.aload_n 0, 1) := by decide +kernel
theorem dX5_flood_58 : decode cX5_flood 58 = .ok (.getfield 33, 3) := by decide +kernel
theorem dX5_flood_61 : decode cX5_flood 61 = .ok (.iload_n 1, 1) := by decide +kernel
theorem dX5_flood_62 : decode cX5_flood 62 = .ok (.invokevirtual 176, 3) := by decide +kernel
theorem dX5_flood_65 : decode cX5_flood 65 = .ok (.ireturn, 1) := by decide +kernel
set_option maxRecDepth 20000 in
theorem ggX5_move_X5_isWoman : GoodIn wsX5_move wsX5_isWoman := goodIn_r _ [6, 1, 29, 30, 31, 32, 33, 34, 35, 36, 37, 38, 39, 40, 41, 42, 43, 44, 45, 46, 47, 48, 49, 50, 51, 52, 53, 54, 55] (by decide +kernel) (by decide +kernel)
set_option maxRecDepth 20000 in
theorem gX5_move_X5_isWoman : GoodIn wsX5_move (wsV RX5 129 RX5 yX5_isWoman wsX5_isWoman) := goodIn_app (goodIn_of _ (by decide +kernel)) ggX5_move_X5_isWoman
set_option maxRecDepth 20000 in
theorem ggX5_move_X5_isPlace : GoodIn wsX5_move wsX5_isPlace := goodIn_r _ [9] (by decide +kernel) (by decide +kernel)
set_option maxRecDepth 20000 in
theorem gX5_move_X5_isPlace : GoodIn wsX5_move (va_wsS RX5 179 yX5_isPlace wsX5_isPlace) := goodIn_app (goodIn_of _ (by decide +kernel)) ggX5_move_X5_isPlace
set_option maxRecDepth 20000 in
theorem ggX5_move_X5_item : GoodIn wsX5_move wsX5_item := goodIn_r _ [12] (by decide +kernel) (by decide +kernel)
set_option maxRecDepth 20000 in
theorem gX5_move_X5_item : GoodIn wsX5_move (va_wsS RX5 138 yX5_item wsX5_item) := goodIn_app (goodIn_of _ (by decide +kernel)) ggX5_move_X5_item
set_option maxRecDepth 20000 in
theorem ggX5_move_X0_doMove : GoodIn wsX5_move wsX0_doMove := goodIn_r _ [17, 18, 11, 5, 12, 19, 20, 21, 16, 22, 23, 24, 25, 26, 27, 28, 41, 42, 43, 44, 45, 46, 47, 48, 49, 50, 51, 52, 53, 54, 55] (by decide +kernel) (by decide +kernel)
set_option maxRecDepth 20000 in
theorem gX5_move_X0_doMove : GoodIn wsX5_move (wsV RX5 185 RX0 yX0_doMove wsX0_doMove) := goodIn_app (goodIn_of _ (by decide +kernel)) ggX5_move_X0_doMove
theorem dX5_move_0 : decode cX5_move 0 = .ok (.aload_n 0, 1) := by decide +kernel
theorem dX5_move_1 : decode cX5_move 1 = .ok (.iload_n 1, 1) := by decide +kernel
theorem dX5_move_2 : decode cX5_move 2 = .ok (.invokevirtual 129, 3) := by decide +kernel
theorem dX5_move_5 : decode cX5_move 5 = .ok (.ifCond .eq 10, 3) := by decide +kernel
theorem dX5_move_8 : decode cX5_move 8 = .ok (.iload_n 2, 1) := by decide +kernel
theorem dX5_move_9 : decode cX5_move 9 = .ok (.invokestatic 179, 3) := by decide +kernel
theorem dX5_move_12 : decode cX5_move 12 = .ok (.ifCond .ne 5, 3) := by decide +kernel
theorem dX5_move_15 : decode cX5_move 15 = .ok (.iconst (-1), 1) := by decide +kernel
theorem dX5_move_16 : decode cX5_move 16 = .ok (.ireturn, 1) := by decide +kernel
theorem dX5_move_17 : decode cX5_move 17 = .ok (.aload_n 0, 1) := by decide +kernel
theorem dX5_move_18 : decode cX5_move 18 = .ok (.getfield 33, 3) := by decide +kernel
theorem dX5_move_21 : decode cX5_move 21 = .ok (.getfield 182, 3) := by decide +kernel
theorem dX5_move_24 : decode cX5_move 24 = .ok (.iload_n 1, 1) := by decide +kernel
theorem dX5_move_25 : decode cX5_move 25 = .ok (.invokestatic 138, 3) := by decide +kernel
theorem dX5_move_28 : decode cX5_move 28 = .ok (.istore_n 3, 1) := by decide +kernel
theorem dX5_move_29 : decode cX5_move 29 = .ok (.iload_n 3, 1) := by decide +kernel
theorem dX5_move_30 : decode cX5_move 30 = .ok (.iload_n 2, 1) := by decide +kernel
theorem dX5_move_31 : decode cX5_move 31 = .ok (.if_icmp .ne 6, 3) := by decide +kernel
theorem dX5_move_34 : decode cX5_move 34 = .ok (.bipush (-4), 2) := by decide +kernel
theorem dX5_move_36 : decode cX5_move 36 = .ok (.ireturn, 1) := by decide +kernel
theorem dX5_move_37 : decode cX5_move 37 = .ok (.aload_n 0, 1) := by decide +kernel
theorem dX5_move_38 : decode cX5_move 38 = .ok (.getfield 33, 3) := by decide +kernel
theorem dX5_move_41 : decode cX5_move 41 = .ok (.getfield 170, 3) := by decide +kernel
theorem dX5_move_44 : decode cX5_move 44 = .ok (.bipush 40, 2) := by decide +kernel
theorem dX5_move_46 : decode cX5_move 46 = .ok (.if_icmp .lt 6, 3) := by decide +kernel
theorem dX5_move_49 : decode cX5_move 49 = .ok (.bipush (-2), 2) := by decide +kernel
theorem dX5_move_51 : decode cX5_move 51 = .ok (.ireturn, 1) := by decide +kernel
theorem dX5_move_52 : decode cX5_move 52 = .ok (.aload_n 0, 1) := by decide +kernel
theorem dX5_move_53 : decode cX5_move 53 = .ok (.getfield 33, 3) := by decide +kernel
theorem dX5_move_56 : decode cX5_move 56 = .ok (.iload_n 1, 1) := by decide +kernel
theorem dX5_move_57 : decode cX5_move 57 = .ok (.iload_n 2, 1) := by decide +kernel
theorem dX5_move_58 : decode cX5_move 58 = .ok (.invokevirtual 185, 3) := by decide +kernel
theorem dX5_move_61 : decode cX5_move 61 = .ok (.iload_n 3, 1) := by decide +kernel
