theorem dX5_move_62 : decode cX5_move 62 = .ok (.ireturn, 1) := by decide +kernel
set_option maxRecDepth 20000 in
theorem ggX5_dyke_X5_isPlace : GoodIn wsX5_dyke wsX5_isPlace := goodIn_r _ [5] (by decide +kernel) (by decide +kernel)
set_option maxRecDepth 20000 in
theorem gX5_dyke_X5_isPlace : GoodIn wsX5_dyke (va_wsS RX5 179 yX5_isPlace wsX5_isPlace) := goodIn_app (goodIn_of _ (by decide +kernel)) ggX5_dyke_X5_isPlace
set_option maxRecDepth 20000 in
theorem ggX5_dyke_X5_item : GoodIn wsX5_dyke wsX5_item := goodIn_r _ [8] (by decide +kernel) (by decide +kernel)
set_option maxRecDepth 20000 in
theorem gX5_dyke_X5_item : GoodIn wsX5_dyke (va_wsS RX5 138 yX5_item wsX5_item) := goodIn_app (goodIn_of _ (by decide +kernel)) ggX5_dyke_X5_item
set_option maxRecDepth 20000 in
theorem ggX5_dyke_X0_doDyke : GoodIn wsX5_dyke wsX0_doDyke := goodIn_r _ [13, 14, 15, 7, 4, 8, 16, 17, 18, 12, 19, 20, 21, 22, 23, 24, 25, 38, 39, 40, 41, 42, 43, 44, 45, 46, 47, 48, 49, 50, 51, 52] (by decide +kernel) (by decide +kernel)
set_option maxRecDepth 20000 in
theorem gX5_dyke_X0_doDyke : GoodIn wsX5_dyke (wsV RX5 195 RX0 yX0_doDyke wsX0_doDyke) := goodIn_app (goodIn_of _ (by decide +kernel)) ggX5_dyke_X0_doDyke
theorem dX5_dyke_0 : decode cX5_dyke 0 = .ok (.iload_n 1, 1) := by decide +kernel
theorem dX5_dyke_1 : decode cX5_dyke 1 = .ok (.invokestatic 179, 3) := by decide +kernel
theorem dX5_dyke_4 : decode cX5_dyke 4 = .ok (.ifCond .ne 5, 3) := by decide +kernel
theorem dX5_dyke_7 : decode cX5_dyke 7 = .ok (.iconst (-1), 1) := by decide +kernel
theorem dX5_dyke_8 : decode cX5_dyke 8 = .ok (.ireturn, 1) := by decide +kernel
theorem dX5_dyke_9 : decode cX5_dyke 9 = .ok (.aload_n 0, 1) := by decide +kernel
theorem dX5_dyke_10 : decode cX5_dyke 10 = .ok (.getfield 33, 3) := by decide +kernel
theorem dX5_dyke_13 : decode cX5_dyke 13 = .ok (.getfield 126, 3) := by decide +kernel
theorem dX5_dyke_16 : decode cX5_dyke 16 = .ok (.ifCond .eq 19, 3) := by decide +kernel
theorem dX5_dyke_19 : decode cX5_dyke 19 = .ok (.aload_n 0, 1) := by decide +kernel
theorem dX5_dyke_20 : decode cX5_dyke 20 = .ok (.getfield 33, 3) := by decide +kernel
theorem dX5_dyke_23 : decode cX5_dyke 23 = .ok (.getfield 189, 3) := by decide +kernel
theorem dX5_dyke_26 : decode cX5_dyke 26 = .ok (.iload_n 1, 1) := by decide +kernel
theorem dX5_dyke_27 : decode cX5_dyke 27 = .ok (.invokestatic 138, 3) := by decide +kernel
theorem dX5_dyke_30 : decode cX5_dyke 30 = .ok (.bipush 9, 2) := by decide +kernel
theorem dX5_dyke_32 : decode cX5_dyke 32 = .ok (.if_icmp .lt 6, 3) := by decide +kernel
theorem dX5_dyke_35 : decode cX5_dyke 35 = .ok (.bipush (-4), 2) := by decide +kernel
theorem dX5_dyke_37 : decode cX5_dyke 37 = .ok (.ireturn, 1) := by decide +kernel
theorem dX5_dyke_38 : decode cX5_dyke 38 = .ok (.aload_n 0, 1) := by decide +kernel
theorem dX5_dyke_39 : decode cX5_dyke 39 = .ok (.getfield 33, 3) := by decide +kernel
theorem dX5_dyke_42 : decode cX5_dyke 42 = .ok (.getfield 192, 3) := by decide +kernel
theorem dX5_dyke_45 : decode cX5_dyke 45 = .ok (.ifCond .gt 6, 3) := by decide +kernel
theorem dX5_dyke_48 : decode cX5_dyke 48 = .ok (.bipush (-6), 2) := by decide +kernel
theorem dX5_dyke_50 : decode cX5_dyke 50 = .ok (.ireturn, 1) := by decide +kernel
theorem dX5_dyke_51 : decode cX5_dyke 51 = .ok (.aload_n 0, 1) := by decide +kernel
theorem dX5_dyke_52 : decode cX5_dyke 52 = .ok (.getfield 33, 3) := by decide +kernel
theorem dX5_dyke_55 : decode cX5_dyke 55 = .ok (.getfield 170, 3) := by decide +kernel
theorem dX5_dyke_58 : decode cX5_dyke 58 = .ok (.bipush 40, 2) := by decide +kernel
theorem dX5_dyke_60 : decode cX5_dyke 60 = .ok (.if_icmp .lt 6, 3) := by decide +kernel
theorem dX5_dyke_63 : decode cX5_dyke 63 = .ok (.bipush (-2), 2) := by decide +kernel
theorem dX5_dyke_65 : decode cX5_dyke 65 = .ok (.ireturn, 1) := by decide +kernel
theorem dX5_dyke_66 : decode cX5_dyke 66 = .ok (.aload_n 0, 1) := by decide +kernel
theorem dX5_dyke_67 : decode cX5_dyke 67 = .ok (.getfield 33, 3) := by decide +kernel
theorem dX5_dyke_70 : decode cX5_dyke 70 = .ok (.iload_n 1, 1) := by decide +kernel
theorem dX5_dyke_71 : decode cX5_dyke 71 = .ok (.invokevirtual 195, 3) := by decide +kernel
theorem dX5_dyke_74 : decode cX5_dyke 74 = .ok (.aload_n 0, 1) := by decide +kernel
theorem dX5_dyke_75 : decode cX5_dyke 75 = .ok (.getfield 33, 3) := by decide +kernel
theorem dX5_dyke_78 : decode cX5_dyke 78 = .ok (.getfield 189, 3) := by decide +kernel
theorem dX5_dyke_81 : decode cX5_dyke 81 = .ok (.iload_n 1, 1) := by decide +kernel
theorem dX5_dyke_82 : decode cX5_dyke 82 = .ok (.invokestatic 138, 3) := by decide +kernel
theorem dX5_dyke_85 : decode cX5_dyke 85 = .ok (.ireturn, 1) := by decide +kernel
set_option maxRecDepth 20000 in
theorem ggX5_tuck_X5_isWoman : GoodIn wsX5_tuck wsX5_isWoman := goodIn_r _ [6, 1, 26, 27, 28, 29, 30, 31, 32, 33, 34, 35, 36, 37, 38, 39, 40, 41, 42, 43, 44, 45, 46, 47, 48, 49, 50, 51, 52] (by decide +kernel) (by decide +kernel)
set_option maxRecDepth 20000 in
theorem gX5_tuck_X5_isWoman : GoodIn wsX5_tuck (wsV RX5 129 RX5 yX5_isWoman wsX5_isWoman) := goodIn_app (goodIn_of _ (by decide +kernel)) ggX5_tuck_X5_isWoman
set_option maxRecDepth 20000 in
theorem ggX5_tuck_X5_item : GoodIn wsX5_tuck wsX5_item := goodIn_r _ [9] (by decide +kernel) (by decide +kernel)
set_option maxRecDepth 20000 in
theorem gX5_tuck_X5_item : GoodIn wsX5_tuck (va_wsS RX5 138 yX5_item wsX5_item) := goodIn_app (goodIn_of _ (by decide +kernel)) ggX5_tuck_X5_item
set_option maxRecDepth 20000 in
theorem ggX5_tuck_X0_doTuck : GoodIn wsX5_tuck wsX0_doTuck := goodIn_r _ [14, 15, 8, 5, 9, 16, 17, 18, 13, 19, 20, 21, 22, 23, 24, 25, 38, 39, 40, 41, 42, 43, 44, 45, 46, 47, 48, 49, 50, 51, 52] (by decide +kernel) (by decide +kernel)
set_option maxRecDepth 20000 in
theorem gX5_tuck_X0_doTuck : GoodIn wsX5_tuck (wsV RX5 201 RX0 yX0_doTuck wsX0_doTuck) := goodIn_app (goodIn_of _ (by decide +kernel)) ggX5_tuck_X0_doTuck
theorem dX5_tuck_0 : decode cX5_tuck 0 = .ok (.aload_n 0, 1) := by decide +kernel
theorem dX5_tuck_1 : decode cX5_tuck 1 = .ok (.iload_n 1, 1) := by decide +kernel
theorem dX5_tuck_2 : decode cX5_tuck 2 = .ok (.invokevirtual 129, 3) := by decide +kernel
theorem dX5_tuck_5 : decode cX5_tuck 5 = .ok (.ifCond .ne 5, 3) := by decide +kernel
theorem dX5_tuck_8 : decode cX5_tuck 8 = .ok (.iconst (-1), 1) := by decide +kernel
theorem dX5_tuck_9 : decode cX5_tuck 9 = .ok (.ireturn, 1) := by decide +kernel
theorem dX5_tuck_10 : decode cX5_tuck 10 = .ok (.aload_n 0, 1) := by decide +kernel
theorem dX5_tuck_11 : decode cX5_tuck 11 = .ok (.getfield 33, 3) := by decide +kernel
theorem dX5_tuck_14 : decode cX5_tuck 14 = .ok (.getfield 198, 3) := by decide +kernel
theorem dX5_tuck_17 : decode cX5_tuck 17 = .ok (.iload_n 1, 1) := by decide +kernel
theorem dX5_tuck_18 : decode cX5_tuck 18 = .ok (.invokestatic 138, 3) := by decide +kernel
theorem dX5_tuck_21 : decode cX5_tuck 21 = .ok (.iconst 3, 1) := by decide +kernel
theorem dX5_tuck_22 : decode cX5_tuck 22 = .ok (.if_icmp .lt 6, 3) := by decide +kernel
theorem dX5_tuck_25 : decode cX5_tuck 25 = .ok (.bipush (-4), 2) := by decide +kernel
theorem dX5_tuck_27 : decode cX5_tuck 27 = .ok (.ireturn, 1) := by decide +kernel
theorem dX5_tuck_28 : decode cX5_tuck 28 = .ok (.aload_n 0, 1) := by decide +kernel
theorem dX5_tuck_29 : decode cX5_tuck 29 = .ok (.getfield 33, 3) := by decide +kernel
theorem dX5_tuck_32 : decode cX5_tuck 32 = .ok (.getfield 170, 3) := by decide +kernel
theorem dX5_tuck_35 : decode cX5_tuck 35 = .ok (.bipush 40, 2) := by decide +kernel
theorem dX5_tuck_37 : decode cX5_tuck 37 = .ok (.if_icmp .lt 6, 3) := by decide +kernel
theorem dX5_tuck_40 : decode cX5_tuck 40 = .ok (.bipush (-2), 2) := by decide +kernel
theorem dX5_tuck_42 : decode cX5_tuck 42 = .ok (.ireturn, 1) := by decide +kernel
theorem dX5_tuck_43 : decode cX5_tuck 43 = .ok (.aload_n 0, 1) := by decide +kernel
theorem dX5_tuck_44 : decode cX5_tuck 44 = .ok (.getfield 33, 3) := by decide +kernel
theorem dX5_tuck_47 : decode cX5_tuck 47 = .ok (.iload_n 1, 1) := by decide +kernel
theorem dX5_tuck_48 : decode cX5_tuck 48 = .ok (.invokevirtual 201, 3) := by decide +kernel
theorem dX5_tuck_51 : decode cX5_tuck 51 = .ok (.aload_n 0, 1) := by decide +kernel
theorem dX5_tuck_52 : decode cX5_tuck 52 = .ok (.getfield 33, 3) := by decide +kernel
theorem dX5_tuck_55 : decode cX5_tuck 55 = .ok (.getfield 198, 3) := by decide +kernel
theorem dX5_tuck_58 : decode cX5_tuck 58 = .ok (.iload_n 1, 1) := by decide +kernel
theorem dX5_tuck_59 : decode cX5_tuck 59 = .ok (.invokestatic 138, 3) := by decide +kernel
theorem dX5_tuck_62 : decode cX5_tuck 62 = .ok (.ireturn, 1) := by decide +kernel
set_option maxRecDepth 20000 in
theorem ggX5_undo_X0_undoLast : GoodIn wsX5_undo wsX0_undoLast := goodIn_r _ [6, 7, 8, 9, 10, 11, 12, 13, 14, 15, 16, 17, 18, 19, 20, 33, 34, 35, 36, 37, 38, 39, 40, 41, 42, 43, 44, 45, 46, 47] (by decide +kernel) (by decide +kernel)
set_option maxRecDepth 20000 in
theorem gX5_undo_X0_undoLast : GoodIn wsX5_undo (wsV RX5 204 RX0 yX0_undoLast wsX0_undoLast) := goodIn_app (goodIn_of _ (by decide +kernel)) ggX5_undo_X0_undoLast
theorem dX5_undo_0 : decode cX5_undo 0 = .ok (.iload_n 1, 1) := by decide +kernel
theorem dX5_undo_1 : decode cX5_undo 1 = .ok (.ifCond .lt 14, 3) := by decide +kernel
theorem dX5_undo_4 : decode cX5_undo 4 = .ok (.iload_n 1, 1) := by decide +kernel
theorem dX5_undo_5 : decode cX5_undo 5 = .ok (.aload_n 0, 1) := by decide +kernel
theorem dX5_undo_6 : decode cX5_undo 6 = .ok (.getfield 33, 3) := by decide +kernel
theorem dX5_undo_9 : decode cX5_undo 9 = .ok (.getfield 170, 3) := by decide +kernel
theorem dX5_undo_12 : decode cX5_undo 12 = .ok (.if_icmp .le 5, 3) := by decide +kernel
theorem dX5_undo_15 : decode cX5_undo 15 = .ok (.iconst (-1), 1) := by decide +kernel
theorem dX5_undo_16 : decode cX5_undo 16 = .ok (.ireturn, 1) := by decide +kernel
theorem dX5_undo_17 : decode cX5_undo 17 = .ok (.aload_n 0, 1) := by decide +kernel
theorem dX5_undo_18 : decode cX5_undo 18 = .ok (.getfield 33, 3) := by decide +kernel
theorem dX5_undo_21 : decode cX5_undo 21 = .ok (.getfield 170, 3) := by decide +kernel
theorem dX5_undo_24 : decode cX5_undo 24 = .ok (.iload_n 1, 1) := by decide +kernel
theorem dX5_undo_25 : decode cX5_undo 25 = .ok (.isub, 1) := by decide +kernel
theorem dX5_undo_26 : decode cX5_undo 26 = .ok (.istore_n 2, 1) := by decide +kernel
theorem dX5_undo_27 : decode cX5_undo 27 = .ok (.iconst 0, 1) := by decide +kernel
theorem dX5_undo_28 : decode cX5_undo 28 = .ok (.istore_n 3, 1) := by decide +kernel
theorem dX5_undo_29 : decode cX5_undo 29 = .ok (.iload_n 3, 1) := by decide +kernel
theorem dX5_undo_30 : decode cX5_undo 30 = .ok (.iload_n 2, 1) := by decide +kernel
theorem dX5_undo_31 : decode cX5_undo 31 = .ok (.if_icmp .ge 16, 3) := by decide +kernel
theorem dX5_undo_34 : decode cX5_undo 34 = .ok (.aload_n 0, 1) := by decide +kernel
theorem dX5_undo_35 : decode cX5_undo 35 = .ok (.getfield 33, 3) := by decide +kernel
theorem dX5_undo_38 : decode cX5_undo 38 = .ok (.invokevirtual 204, 3) := by decide +kernel
theorem dX5_undo_41 : decode cX5_undo 41 = .ok (.iinc 3 1, 3) := by decide +kernel
theorem dX5_undo_44 : decode cX5_undo 44 = .ok (.goto (-15), 3) := by decide +kernel
theorem dX5_undo_47 : decode cX5_undo 47 = .ok (.iload_n 2, 1) := by decide +kernel
theorem dX5_undo_48 : decode cX5_undo 48 = .ok (.ireturn, 1) := by decide +kernel
set_option maxRecDepth 20000 in
theorem ggX5_keep_X5_keptAt : GoodIn wsX5_keep wsX5_keptAt := goodIn_r _ [6, 7, 41, 42, 43, 44, 45, 46, 47, 48, 49, 50, 51, 52] (by decide +kernel) (by decide +kernel)
set_option maxRecDepth 20000 in
theorem gX5_keep_X5_keptAt : GoodIn wsX5_keep (wsV RX5 119 RX5 yX5_keptAt wsX5_keptAt) := goodIn_app (goodIn_of _ (by decide +kernel)) ggX5_keep_X5_keptAt
set_option maxRecDepth 20000 in
theorem ggX5_keep_X0_takeFrom : GoodIn wsX5_keep wsX0_takeFrom := goodIn_r _ [12, 13, 14, 15, 16, 17, 18, 19, 20, 21, 22, 23, 24, 25, 26, 27, 28, 5, 29, 30, 31, 32, 33, 34, 35, 36, 37, 38, 39, 40, 53, 54, 55, 56, 57, 58, 59, 60, 61, 62, 63, 64, 65, 66, 67] (by decide +kernel) (by decide +kernel)
set_option maxRecDepth 20000 in
theorem gX5_keep_X0_takeFrom : GoodIn wsX5_keep (wsV RX5 115 RX0 yX0_takeFrom wsX0_takeFrom) := goodIn_app (goodIn_of _ (by decide +kernel)) ggX5_keep_X0_takeFrom
theorem dX5_keep_0 : decode cX5_keep 0 = .ok (.aload_n 0, 1) := by decide +kernel
theorem dX5_keep_1 : decode cX5_keep 1 = .ok (.iload_n 1, 1) := by decide +kernel
theorem dX5_keep_2 : decode cX5_keep 2 = .ok (.invokevirtual 119, 3) := by decide +kernel
theorem dX5_keep_5 : decode cX5_keep 5 = .ok (.astore_n 2, 1) := by decide +kernel
theorem dX5_keep_6 : decode cX5_keep 6 = .ok (.aload_n 2, 1) := by decide +kernel
theorem dX5_keep_7 : decode cX5_keep 7 = .ok (.ifnonnull 5, 3) := by decide +kernel
theorem dX5_keep_10 : decode cX5_keep 10 = .ok (.iconst (-1), 1) := by decide +kernel
theorem dX5_keep_11 : decode cX5_keep 11 = .ok (.ireturn, 1) := by decide +kernel
theorem dX5_keep_12 : decode cX5_keep 12 = .ok (.aload_n 0, 1) := by decide +kernel
theorem dX5_keep_13 : decode cX5_keep 13 = .ok (.getfield 33, 3) := by decide +kernel
theorem dX5_keep_16 : decode cX5_keep 16 = .ok (.getfield 126, 3) := by decide +kernel
theorem dX5_keep_19 : decode cX5_keep 19 = .ok (.ifCond .ne 6, 3) := by decide +kernel
theorem dX5_keep_22 : decode cX5_keep 22 = .ok (.bipush (-4), 2) := by decide +kernel
theorem dX5_keep_24 : decode cX5_keep 24 = .ok (.ireturn, 1) := by decide +kernel
theorem dX5_keep_25 : decode cX5_keep 25 = .ok (.aload_n 2, 1) := by decide +kernel
theorem dX5_keep_26 : decode cX5_keep 26 = .ok (.aload_n 0, 1) := by decide +kernel
theorem dX5_keep_27 : decode cX5_keep 27 = .ok (.getfield 33, 3) := by decide +kernel
theorem dX5_keep_30 : decode cX5_keep 30 = .ok (.invokevirtual 115, 3) := by decide +kernel
theorem dX5_keep_33 : decode cX5_keep 33 = .ok (.aload_n 0, 1) := by decide +kernel
theorem dX5_keep_34 : decode cX5_keep 34 = .ok (.getfield 33, 3) := by decide +kernel
theorem dX5_keep_37 : decode cX5_keep 37 = .ok (.getfield 170, 3) := by decide +kernel
theorem dX5_keep_40 : decode cX5_keep 40 = .ok (.ireturn, 1) := by decide +kernel
set_option maxRecDepth 20000 in
theorem ggX5_on_X5_keptAt : GoodIn wsX5_on wsX5_keptAt := goodIn_r _ [6, 7, 68, 69, 70, 71, 72, 73, 74, 75, 76, 77, 78, 79] (by decide +kernel) (by decide +kernel)
set_option maxRecDepth 20000 in
theorem gX5_on_X5_keptAt : GoodIn wsX5_on (wsV RX5 119 RX5 yX5_keptAt wsX5_keptAt) := goodIn_app (goodIn_of _ (by decide +kernel)) ggX5_on_X5_keptAt
set_option maxRecDepth 20000 in
theorem ggX5_on_X5_found : GoodIn wsX5_on wsX5_found := goodIn_r _ [11, 12, 13, 14, 15, 5, 16, 17, 18, 19, 68, 69, 70, 71, 72, 73, 74, 75, 76, 77, 78, 79] (by decide +kernel) (by decide +kernel)
set_option maxRecDepth 20000 in
theorem gX5_on_X5_found : GoodIn wsX5_on (wsV RX5 91 RX5 yX5_found wsX5_found) := goodIn_app (goodIn_of _ (by decide +kernel)) ggX5_on_X5_found
set_option maxRecDepth 20000 in
theorem ggX5_on_X0_takeFrom : GoodIn wsX5_on wsX0_takeFrom := goodIn_r _ [24, 25, 26, 27, 28, 29, 30, 31, 32, 33, 34, 35, 36, 37, 38, 39, 40, 5, 41, 42, 43, 44, 45, 46, 47, 48, 49, 50, 51, 52, 53, 54, 55, 56, 57, 58, 59, 60, 61, 62, 63, 64, 65, 66, 67] (by decide +kernel) (by decide +kernel)
set_option maxRecDepth 20000 in
theorem gX5_on_X0_takeFrom : GoodIn wsX5_on (wsV RX5 115 RX0 yX0_takeFrom wsX0_takeFrom) := goodIn_app (goodIn_of _ (by decide +kernel)) ggX5_on_X0_takeFrom
theorem dX5_on_0 : decode cX5_on 0 = .ok (.aload_n 0, 1) := by decide +kernel
theorem dX5_on_1 : decode cX5_on 1 = .ok (.iload_n 1, 1) := by decide +kernel
theorem dX5_on_2 : decode cX5_on 2 = .ok (.invokevirtual 119, 3) := by decide +kernel
theorem dX5_on_5 : decode cX5_on 5 = .ok (.astore_n 2, 1) := by decide +kernel
theorem dX5_on_6 : decode cX5_on 6 = .ok (.aload_n 2, 1) := by decide +kernel
theorem dX5_on_7 : decode cX5_on 7 = .ok (.ifnonnull 5, 3) := by decide +kernel
theorem dX5_on_10 : decode cX5_on 10 = .ok (.iconst (-1), 1) := by decide +kernel
theorem dX5_on_11 : decode cX5_on 11 = .ok (.ireturn, 1) := by decide +kernel
theorem dX5_on_12 : decode cX5_on 12 = .ok (.aload_n 2, 1) := by decide +kernel
theorem dX5_on_13 : decode cX5_on 13 = .ok (.getfield 126, 3) := by decide +kernel
theorem dX5_on_16 : decode cX5_on 16 = .ok (.ifCond .ne 9, 3) := by decide +kernel
theorem dX5_on_19 : decode cX5_on 19 = .ok (.aload_n 0, 1) := by decide +kernel
theorem dX5_on_20 : decode cX5_on 20 = .ok (.iconst 1, 1) := by decide +kernel
theorem dX5_on_21 : decode cX5_on 21 = .ok (.invokevirtual 91, 3) := by decide +kernel
theorem dX5_on_24 : decode cX5_on 24 = .ok (.ireturn, 1) := by decide +kernel
theorem dX5_on_25 : decode cX5_on 25 = .ok (.aload_n 0, 1) := by decide +kernel
theorem dX5_on_26 : decode cX5_on 26 = .ok (.getfield 33, 3) := by decide +kernel
theorem dX5_on_29 : decode cX5_on 29 = .ok (.aload_n 2, 1) := by decide +kernel
theorem dX5_on_30 : decode cX5_on 30 = .ok (.invokevirtual 115, 3) := by decide +kernel
theorem dX5_on_33 : decode cX5_on 33 = .ok (.aload_n 0, 1) := by decide +kernel
theorem dX5_on_34 : decode cX5_on 34 = .ok (.getfield 33, 3) := by decide +kernel
theorem dX5_on_37 : decode cX5_on 37 = .ok (.getfield 170, 3) := by decide +kernel
theorem dX5_on_40 : decode cX5_on 40 = .ok (.ireturn, 1) := by decide +kernel
set_option maxRecDepth 20000 in
theorem ggX5_know_X5_isSet : GoodIn wsX5_know wsX5_isSet := goodIn_r _ [7, 1, 8, 9, 10, 11, 12, 13, 63, 64, 65, 66, 67, 68, 69, 70, 71, 72, 73, 74, 75, 76, 77, 78, 79, 80, 81, 82, 83, 84, 85, 86, 87, 88, 89] (by decide +kernel) (by decide +kernel)
set_option maxRecDepth 20000 in
theorem gX5_know_X5_isSet : GoodIn wsX5_know (wsV RX5 207 RX5 yX5_isSet wsX5_isSet) := goodIn_app (goodIn_of _ (by decide +kernel)) ggX5_know_X5_isSet
set_option maxRecDepth 20000 in
theorem ggX5_know_X5_isPast : GoodIn wsX5_know wsX5_isPast := goodIn_r _ [17, 1, 63, 64, 65, 66, 67, 68, 69, 70, 71, 72, 73, 74, 75, 76, 77, 78, 79, 80, 81, 82, 83, 84, 85, 86, 87, 88, 89] (by decide +kernel) (by decide +kernel)
set_option maxRecDepth 20000 in
theorem gX5_know_X5_isPast : GoodIn wsX5_know (wsV RX5 160 RX5 yX5_isPast wsX5_isPast) := goodIn_app (goodIn_of _ (by decide +kernel)) ggX5_know_X5_isPast
set_option maxRecDepth 20000 in
theorem ggX5_know_X0_knownBy : GoodIn wsX5_know wsX0_knownBy := goodIn_r _ [21, 22, 13, 23, 6, 24, 25, 26, 27, 11, 28, 29, 30, 31, 32, 33, 34, 35, 36, 37, 38, 39, 40, 41, 42, 43, 44, 45, 46, 47, 48, 49, 50, 51, 52, 53, 54, 55, 75, 76, 77, 78, 79, 80, 81, 82, 83, 84, 85, 86, 87, 88, 89] (by decide +kernel) (by decide +kernel)
set_option maxRecDepth 20000 in
theorem gX5_know_X0_knownBy : GoodIn wsX5_know (wsV RX5 210 RX0 yX0_knownBy wsX0_knownBy) := goodIn_app (goodIn_of _ (by decide +kernel)) ggX5_know_X0_knownBy
set_option maxRecDepth 20000 in
theorem ggX5_know_J6_bitCount_0f7a4 : GoodIn wsX5_know wsJ6_bitCount_0f7a4 := goodIn_r _ [59, 60, 61, 62] (by decide +kernel) (by decide +kernel)
set_option maxRecDepth 20000 in
theorem gX5_know_J6_bitCount_0f7a4 : GoodIn wsX5_know (va_wsS RX5 213 yJ6_bitCount_0f7a4 wsJ6_bitCount_0f7a4) := goodIn_app (goodIn_of _ (by decide +kernel)) ggX5_know_J6_bitCount_0f7a4
theorem dX5_know_0 : decode cX5_know 0 = .ok (.aload_n 0, 1) := by decide +kernel
theorem dX5_know_1 : decode cX5_know 1 = .ok (.iload_n 1, 1) := by decide +kernel
theorem dX5_know_2 : decode cX5_know 2 = .ok (.invokevirtual 207, 3) := by decide +kernel
theorem dX5_know_5 : decode cX5_know 5 = .ok (.ifCond .eq 11, 3) := by decide +kernel
theorem dX5_know_8 : decode cX5_know 8 = .ok (.aload_n 0, 1) := by decide +kernel
theorem dX5_know_9 : decode cX5_know 9 = .ok (.iload_n 2, 1) := by decide +kernel
theorem dX5_know_10 : decode cX5_know 10 = .ok (.invokevirtual 160, 3) := by decide +kernel
theorem dX5_know_13 : decode cX5_know 13 = .ok (.ifCond .ne 5, 3) := by decide +kernel
theorem dX5_know_16 : decode cX5_know 16 = .ok (.iconst (-1), 1) := by decide +kernel
theorem dX5_know_17 : decode cX5_know 17 = .ok (.ireturn, 1) := by decide +kernel
theorem dX5_know_18 : decode cX5_know 18 = .ok (.aload_n 0, 1) := by decide +kernel
theorem dX5_know_19 : decode cX5_know 19 = .ok (.getfield 33, 3) := by decide +kernel
theorem dX5_know_22 : decode cX5_know 22 = .ok (.iload_n 1, 1) := by decide +kernel
theorem dX5_know_23 : decode cX5_know 23 = .ok (.iload_n 2, 1) := by decide +kernel
theorem dX5_know_24 : decode cX5_know 24 = .ok (.invokevirtual 210, 3) := by decide +kernel
theorem dX5_know_27 : decode cX5_know 27 = .ok (.istore_n 3, 1) := by decide +kernel
theorem dX5_know_28 : decode cX5_know 28 = .ok (.aload_n 0, 1) := by decide +kernel
theorem dX5_know_29 : decode cX5_know 29 = .ok (.iload_n 3, 1) := by decide +kernel
theorem dX5_know_30 : decode cX5_know 30 = .ok (.invokestatic 213, 3) := by decide +kernel
theorem dX5_know_33 : decode cX5_know 33 = .ok (.putfield 71, 3) := by decide +kernel
theorem dX5_know_36 : decode cX5_know 36 = .ok (.iload_n 3, 1) := by decide +kernel
theorem dX5_know_37 : decode cX5_know 37 = .ok (.ireturn, 1) := by decide +kernel
set_option maxRecDepth 20000 in
theorem ggX5_high_X5_isPast : GoodIn wsX5_high wsX5_isPast := goodIn_r _ [6, 1, 59, 60, 61, 62, 63, 64, 65, 66, 67, 68, 69, 70, 71, 72, 73, 74, 75, 76, 77, 78, 79, 80, 81, 82, 83, 84, 85] (by decide +kernel) (by decide +kernel)
set_option maxRecDepth 20000 in
theorem gX5_high_X5_isPast : GoodIn wsX5_high (wsV RX5 160 RX5 yX5_isPast wsX5_isPast) := goodIn_app (goodIn_of _ (by decide +kernel)) ggX5_high_X5_isPast
set_option maxRecDepth 20000 in
theorem ggX5_high_X0_everyone : GoodIn wsX5_high wsX0_everyone := goodIn_r _ [11, 12, 71, 72, 73, 74, 75, 76, 77, 78, 79, 80, 81, 82, 83, 84, 85] (by decide +kernel) (by decide +kernel)
set_option maxRecDepth 20000 in
theorem gX5_high_X0_everyone : GoodIn wsX5_high (wsV RX5 218 RX0 yX0_everyone wsX0_everyone) := goodIn_app (goodIn_of _ (by decide +kernel)) ggX5_high_X0_everyone
set_option maxRecDepth 20000 in
theorem ggX5_high_X0_knownBy : GoodIn wsX5_high wsX0_knownBy := goodIn_r _ [16, 17, 12, 18, 5, 19, 20, 21, 22, 10, 23, 24, 25, 26, 27, 28, 29, 30, 31, 32, 33, 34, 35, 36, 37, 38, 39, 40, 41, 42, 43, 44, 45, 46, 47, 48, 49, 50, 71, 72, 73, 74, 75, 76, 77, 78, 79, 80, 81, 82, 83, 84, 85] (by decide +kernel) (by decide +kernel)
set_option maxRecDepth 20000 in
theorem gX5_high_X0_knownBy : GoodIn wsX5_high (wsV RX5 210 RX0 yX0_knownBy wsX0_knownBy) := goodIn_app (goodIn_of _ (by decide +kernel)) ggX5_high_X0_knownBy
set_option maxRecDepth 20000 in
theorem ggX5_high_J6_bitCount_0f7a4 : GoodIn wsX5_high wsJ6_bitCount_0f7a4 := goodIn_r _ [54, 55, 56, 57] (by decide +kernel) (by decide +kernel)
set_option maxRecDepth 20000 in
theorem gX5_high_J6_bitCount_0f7a4 : GoodIn wsX5_high (va_wsS RX5 213 yJ6_bitCount_0f7a4 wsJ6_bitCount_0f7a4) := goodIn_app (goodIn_of _ (by decide +kernel)) ggX5_high_J6_bitCount_0f7a4
set_option maxRecDepth 20000 in
theorem ggX5_high_X5_item : GoodIn wsX5_high wsX5_item := goodIn_r _ [31] (by decide +kernel) (by decide +kernel)
set_option maxRecDepth 20000 in
theorem gX5_high_X5_item : GoodIn wsX5_high (va_wsS RX5 138 yX5_item wsX5_item) := goodIn_app (goodIn_of _ (by decide +kernel)) ggX5_high_X5_item
theorem dX5_high_0 : decode cX5_high 0 = .ok (.aload_n 0, 1) := by decide +kernel
theorem dX5_high_1 : decode cX5_high 1 = .ok (.iload_n 1, 1) := by decide +kernel
theorem dX5_high_2 : decode cX5_high 2 = .ok (.invokevirtual 160, 3) := by decide +kernel
theorem dX5_high_5 : decode cX5_high 5 = .ok (.ifCond .ne 5, 3) := by decide +kernel
theorem dX5_high_8 : decode cX5_high 8 = .ok (.iconst (-1), 1) := by decide +kernel
theorem dX5_high_9 : decode cX5_high 9 = .ok (.ireturn, 1) := by decide +kernel
theorem dX5_high_10 : decode cX5_high 10 = .ok (.aload_n 0, 1) := by decide +kernel
theorem dX5_high_11 : decode cX5_high 11 = .ok (.getfield 33, 3) := by decide +kernel
theorem dX5_high_14 : decode cX5_high 14 = .ok (.aload_n 0, 1) := by decide +kernel
theorem dX5_high_15 : decode cX5_high 15 = .ok (.getfield 33, 3) := by decide +kernel
theorem dX5_high_18 : decode cX5_high 18 = .ok (.invokevirtual 218, 3) := by decide +kernel
theorem dX5_high_21 : decode cX5_high 21 = .ok (.iload_n 1, 1) := by decide +kernel
theorem dX5_high_22 : decode cX5_high 22 = .ok (.invokevirtual 210, 3) := by decide +kernel
theorem dX5_high_25 : decode cX5_high 25 = .ok (.istore_n 2, 1) := by decide +kernel
theorem dX5_high_26 : decode cX5_high 26 = .ok (.iload_n 2, 1) := by decide +kernel
theorem dX5_high_27 : decode cX5_high 27 = .ok (.invokestatic 213, 3) := by decide +kernel
theorem dX5_high_30 : decode cX5_high 30 = .ok (.iconst 1, 1) := by decide +kernel
theorem dX5_high_31 : decode cX5_high 31 = .ok (.if_icmp .ne 17, 3) := by decide +kernel
theorem dX5_high_34 : decode cX5_high 34 = .ok (.aload_n 0, 1) := by decide +kernel
theorem dX5_high_35 : decode cX5_high 35 = .ok (.getfield 33, 3) := by decide +kernel
theorem dX5_high_38 : decode cX5_high 38 = .ok (.getfield 222, 3) := by decide +kernel
theorem dX5_high_41 : decode cX5_high 41 = .ok (.iload_n 1, 1) := by decide +kernel
theorem dX5_high_42 : decode cX5_high 42 = .ok (.invokestatic 138, 3) := by decide +kernel
theorem dX5_high_45 : decode cX5_high 45 = .ok (.goto 5, 3) := by decide +kernel
theorem dX5_high_48 : decode cX5_high 48 = .ok (.bipush (-9), 2) := by decide +kernel
theorem dX5_high_50 : decode cX5_high 50 = .ok (.ireturn, 1) := by decide +kernel
set_option maxRecDepth 20000 in
theorem ggX5_look_X5_isSet : GoodIn wsX5_look wsX5_isSet := goodIn_r _ [7, 1, 8, 9, 10, 11, 12, 13, 76, 77, 78, 79, 80, 81, 82, 83, 84, 85, 86, 87, 88, 89, 90, 91, 92, 93, 94, 95, 96, 97, 98, 99, 100, 101, 102] (by decide +kernel) (by decide +kernel)
set_option maxRecDepth 20000 in
theorem gX5_look_X5_isSet : GoodIn wsX5_look (wsV RX5 207 RX5 yX5_isSet wsX5_isSet) := goodIn_app (goodIn_of _ (by decide +kernel)) ggX5_look_X5_isSet
set_option maxRecDepth 20000 in
theorem ggX5_look_X5_isPast : GoodIn wsX5_look wsX5_isPast := goodIn_r _ [17, 1, 76, 77, 78, 79, 80, 81, 82, 83, 84, 85, 86, 87, 88, 89, 90, 91, 92, 93, 94, 95, 96, 97, 98, 99, 100, 101, 102] (by decide +kernel) (by decide +kernel)
set_option maxRecDepth 20000 in
theorem gX5_look_X5_isPast : GoodIn wsX5_look (wsV RX5 160 RX5 yX5_isPast wsX5_isPast) := goodIn_app (goodIn_of _ (by decide +kernel)) ggX5_look_X5_isPast
set_option maxRecDepth 20000 in
theorem ggX5_look_X0_knownBy : GoodIn wsX5_look wsX0_knownBy := goodIn_r _ [21, 22, 13, 23, 6, 24, 25, 26, 27, 11, 28, 29, 30, 31, 32, 33, 34, 35, 36, 37, 38, 39, 40, 41, 42, 43, 44, 45, 46, 47, 48, 49, 50, 51, 52, 53, 54, 55, 88, 89, 90, 91, 92, 93, 94, 95, 96, 97, 98, 99, 100, 101, 102] (by decide +kernel) (by decide +kernel)
set_option maxRecDepth 20000 in
theorem gX5_look_X0_knownBy : GoodIn wsX5_look (wsV RX5 210 RX0 yX0_knownBy wsX0_knownBy) := goodIn_app (goodIn_of _ (by decide +kernel)) ggX5_look_X0_knownBy
set_option maxRecDepth 20000 in
theorem ggX5_look_X5_hasBit : GoodIn wsX5_look wsX5_hasBit := goodIn_r _ [24] (by decide +kernel) (by decide +kernel)
set_option maxRecDepth 20000 in
theorem gX5_look_X5_hasBit : GoodIn wsX5_look (va_wsS RX5 225 yX5_hasBit wsX5_hasBit) := goodIn_app (goodIn_of _ (by decide +kernel)) ggX5_look_X5_hasBit
set_option maxRecDepth 20000 in
theorem ggX5_look_X5_greatestPartOfHeights : GoodIn wsX5_look wsX5_greatestPartOfHeights := goodIn_r _ [60, 61, 1, 62, 43, 44, 45, 63, 64, 65, 66, 56, 23, 6, 24, 67, 35, 36, 68, 38, 39, 11, 40, 41, 42, 46, 47, 48, 49, 50, 51, 52, 53, 54, 55, 69, 70, 71, 72, 73, 74, 75, 76, 77, 78, 79, 80, 81, 82, 83, 84, 85, 86, 87, 88, 89, 90, 91, 92, 93, 94, 95, 96, 97, 98, 99, 100, 101, 102] (by decide +kernel) (by decide +kernel)
set_option maxRecDepth 20000 in
theorem gX5_look_X5_greatestPartOfHeights : GoodIn wsX5_look (wsV RX5 228 RX5 yX5_greatestPartOfHeights wsX5_greatestPartOfHeights) := goodIn_app (goodIn_of _ (by decide +kernel)) ggX5_look_X5_greatestPartOfHeights
theorem dX5_look_0 : decode cX5_look 0 = .ok (.aload_n 0, 1) := by decide +kernel
theorem dX5_look_1 : decode cX5_look 1 = .ok (.iload_n 1, 1) := by decide +kernel
theorem dX5_look_2 : decode cX5_look 2 = .ok (.invokevirtual 207, 3) := by decide +kernel
theorem dX5_look_5 : decode cX5_look 5 = .ok (.ifCond .eq 11, 3) := by decide +kernel
theorem dX5_look_8 : decode cX5_look 8 = .ok (.aload_n 0, 1) := by decide +kernel
theorem dX5_look_9 : decode cX5_look 9 = .ok (.iload_n 2, 1) := by decide +kernel
theorem dX5_look_10 : decode cX5_look 10 = .ok (.invokevirtual 160, 3) := by decide +kernel
theorem dX5_look_13 : decode cX5_look 13 = .ok (.ifCond .ne 5, 3) := by decide +kernel
theorem dX5_look_16 : decode cX5_look 16 = .ok (.iconst (-1), 1) := by decide +kernel
theorem dX5_look_17 : decode cX5_look 17 = .ok (.ireturn, 1) := by decide +kernel
theorem dX5_look_18 : decode cX5_look 18 = .ok (.aload_n 0, 1) := by decide +kernel
theorem dX5_look_19 : decode cX5_look 19 = .ok (.getfield 33, 3) := by decide +kernel
theorem dX5_look_22 : decode cX5_look 22 = .ok (.iload_n 1, 1) := by decide +kernel
theorem dX5_look_23 : decode cX5_look 23 = .ok (.iload_n 2, 1) := by decide +kernel
theorem dX5_look_24 : decode cX5_look 24 = .ok (.invokevirtual 210, 3) := by decide +kernel
theorem dX5_look_27 : decode cX5_look 27 = .ok (.istore_n 3, 1) := by decide +kernel
theorem dX5_look_28 : decode cX5_look 28 = .ok (.bipush (-9), 2) := by decide +kernel
theorem dX5_look_30 : decode cX5_look 30 = .ok (.istore 4, 2) := by decide +kernel
theorem dX5_look_32 : decode cX5_look 32 = .ok (.iconst 0, 1) := by decide +kernel
theorem dX5_look_33 : decode cX5_look 33 = .ok (.istore 5, 2) := by decide +kernel
theorem dX5_look_35 : decode cX5_look 35 = .ok (.iconst 0, 1) := by decide +kernel
theorem dX5_look_36 : decode cX5_look 36 = .ok (.istore 6, 2) := by decide +kernel
theorem dX5_look_38 : decode cX5_look 38 = .ok (.iload 6, 2) := by decide +kernel
theorem dX5_look_40 : decode cX5_look 40 = .ok (.aload_n 0, 1) := by decide +kernel
theorem dX5_look_41 : decode cX5_look 41 = .ok (.getfield 33, 3) := by decide +kernel
theorem dX5_look_44 : decode cX5_look 44 = .ok (.getfield 126, 3) := by decide +kernel
theorem dX5_look_47 : decode cX5_look 47 = .ok (.if_icmp .ge 50, 3) := by decide +kernel
theorem dX5_look_50 : decode cX5_look 50 = .ok (.iload_n 1, 1) := by decide +kernel
theorem dX5_look_51 : decode cX5_look 51 = .ok (.iload 6, 2) := by decide +kernel
theorem dX5_look_53 : decode cX5_look 53 = .ok (.invokestatic 225, 3) := by decide +kernel
theorem dX5_look_56 : decode cX5_look 56 = .ok (.ifCond .ne 35, 3) := by decide +kernel
theorem dX5_look_59 : decode cX5_look 59 = .ok (.aload_n 0, 1) := by decide +kernel
theorem dX5_look_60 : decode cX5_look 60 = .ok (.iload 6, 2) := by decide +kernel
theorem dX5_look_62 : decode cX5_look 62 = .ok (.iload_n 2, 1) := by decide +kernel
theorem dX5_look_63 : decode cX5_look 63 = .ok (.iload_n 3, 1) := by decide +kernel
theorem dX5_look_64 : decode cX5_look 64 = .ok (.invokevirtual 228, 3) := by decide +kernel
theorem dX5_look_67 : decode cX5_look 67 = .ok (.istore 7, 2) := by decide +kernel
theorem dX5_look_69 : decode cX5_look 69 = .ok (.iload 4, 2) := by decide +kernel
theorem dX5_look_71 : decode cX5_look 71 = .ok (.bipush (-9), 2) := by decide +kernel
theorem dX5_look_73 : decode cX5_look 73 = .ok (.if_icmp .eq 10, 3) := by decide +kernel
theorem dX5_look_76 : decode cX5_look 76 = .ok (.iload 7, 2) := by decide +kernel
theorem dX5_look_78 : decode cX5_look 78 = .ok (.iload 5, 2) := by decide +kernel
theorem dX5_look_80 : decode cX5_look 80 = .ok (.if_icmp .ge 11, 3) := by decide +kernel
theorem dX5_look_83 : decode cX5_look 83 = .ok (.iload 6, 2) := by decide +kernel
theorem dX5_look_85 : decode cX5_look 85 = .ok (.istore 4, 2) := by decide +kernel
theorem dX5_look_87 : decode cX5_look 87 = .ok (.iload 7, 2) := by decide +kernel
theorem dX5_look_89 : decode cX5_look 89 = .ok (.istore 5, 2) := by decide +kernel
theorem dX5_look_91 : decode cX5_look 91 = .ok (.iinc 6 1, 3) := by decide +kernel
theorem dX5_look_94 : decode cX5_look 94 = .ok (.goto (-56), 3) := by decide +kernel
theorem dX5_look_97 : decode cX5_look 97 = .ok (.iload 4, 2) := by decide +kernel
theorem dX5_look_99 : decode cX5_look 99 = .ok (.bipush (-9), 2) := by decide +kernel
theorem dX5_look_101 : decode cX5_look 101 = .ok (.if_icmp .eq 9, 3) := by decide +kernel
theorem dX5_look_104 : decode cX5_look 104 = .ok (.aload_n 0, 1) := by decide +kernel
theorem dX5_look_105 : decode cX5_look 105 = .ok (.iload 5, 2) := by decide +kernel
theorem dX5_look_107 : decode cX5_look 107 = .ok (.putfield 71, 3) := by decide +kernel
theorem dX5_look_110 : decode cX5_look 110 = .ok (.iload 4, 2) := by decide +kernel
theorem dX5_look_112 : decode cX5_look 112 = .ok (.ireturn, 1) := by decide +kernel
set_option maxRecDepth 20000 in
theorem ggX5_looks_X5_isPast : GoodIn wsX5_looks wsX5_isPast := goodIn_r _ [7, 1, 59, 60, 61, 62, 63, 64, 65, 66, 67, 68, 69, 70, 71, 72, 73, 74, 75, 76, 77, 78, 79, 80, 81, 82, 83, 84, 85] (by decide +kernel) (by decide +kernel)
set_option maxRecDepth 20000 in
theorem gX5_looks_X5_isPast : GoodIn wsX5_looks (wsV RX5 160 RX5 yX5_isPast wsX5_isPast) := goodIn_app (goodIn_of _ (by decide +kernel)) ggX5_looks_X5_isPast
set_option maxRecDepth 20000 in
theorem ggX5_looks_X0_everyone : GoodIn wsX5_looks wsX0_everyone := goodIn_r _ [12, 13, 71, 72, 73, 74, 75, 76, 77, 78, 79, 80, 81, 82, 83, 84, 85] (by decide +kernel) (by decide +kernel)
set_option maxRecDepth 20000 in
theorem gX5_looks_X0_everyone : GoodIn wsX5_looks (wsV RX5 218 RX0 yX0_everyone wsX0_everyone) := goodIn_app (goodIn_of _ (by decide +kernel)) ggX5_looks_X0_everyone
set_option maxRecDepth 20000 in
theorem ggX5_looks_X0_knownBy : GoodIn wsX5_looks wsX0_knownBy := goodIn_r _ [17, 18, 13, 19, 6, 20, 21, 22, 23, 11, 24, 25, 26, 27, 28, 29, 30, 31, 32, 33, 34, 35, 36, 37, 38, 39, 40, 41, 42, 43, 44, 45, 46, 47, 48, 49, 50, 51, 71, 72, 73, 74, 75, 76, 77, 78, 79, 80, 81, 82, 83, 84, 85] (by decide +kernel) (by decide +kernel)
set_option maxRecDepth 20000 in
theorem gX5_looks_X0_knownBy : GoodIn wsX5_looks (wsV RX5 210 RX0 yX0_knownBy wsX0_knownBy) := goodIn_app (goodIn_of _ (by decide +kernel)) ggX5_looks_X0_knownBy
set_option maxRecDepth 20000 in
theorem ggX5_looks_J6_bitCount_0f7a4 : GoodIn wsX5_looks wsJ6_bitCount_0f7a4 := goodIn_r _ [55, 56, 57, 58] (by decide +kernel) (by decide +kernel)
set_option maxRecDepth 20000 in
theorem gX5_looks_J6_bitCount_0f7a4 : GoodIn wsX5_looks (va_wsS RX5 213 yJ6_bitCount_0f7a4 wsJ6_bitCount_0f7a4) := goodIn_app (goodIn_of _ (by decide +kernel)) ggX5_looks_J6_bitCount_0f7a4
theorem dX5_looks_0 : decode cX5_looks 0 = .ok (.aload_n 0, 1) := by decide +kernel
theorem dX5_looks_1 : decode cX5_looks 1 = .ok (.iload_n 1, 1) := by decide +kernel
theorem dX5_looks_2 : decode cX5_looks 2 = .ok (.invokevirtual 160, 3) := by decide +kernel
theorem dX5_looks_5 : decode cX5_looks 5 = .ok (.ifCond .ne 5, 3) := by decide +kernel
theorem dX5_looks_8 : decode cX5_looks 8 = .ok (.iconst (-1), 1) := by decide +kernel
theorem dX5_looks_9 : decode cX5_looks 9 = .ok (.ireturn, 1) := by decide +kernel
theorem dX5_looks_10 : decode cX5_looks 10 = .ok (.aload_n 0, 1) := by decide +kernel
theorem dX5_looks_11 : decode cX5_looks 11 = .ok (.getfield 33, 3) := by decide +kernel
theorem dX5_looks_14 : decode cX5_looks 14 = .ok (.invokevirtual 218, 3) := by decide +kernel
theorem dX5_looks_17 : decode cX5_looks 17 = .ok (.istore_n 2, 1) := by decide +kernel
theorem dX5_looks_18 : decode cX5_looks 18 = .ok (.aload_n 0, 1) := by decide +kernel
theorem dX5_looks_19 : decode cX5_looks 19 = .ok (.getfield 33, 3) := by decide +kernel
theorem dX5_looks_22 : decode cX5_looks 22 = .ok (.iload_n 2, 1) := by decide +kernel
theorem dX5_looks_23 : decode cX5_looks 23 = .ok (.iload_n 1, 1) := by decide +kernel
theorem dX5_looks_24 : decode cX5_looks 24 = .ok (.invokevirtual 210, 3) := by decide +kernel
theorem dX5_looks_27 : decode cX5_looks 27 = .ok (.istore_n 3, 1) := by decide +kernel
theorem dX5_looks_28 : decode cX5_looks 28 = .ok (.iconst 0, 1) := by decide +kernel
theorem dX5_looks_29 : decode cX5_looks 29 = .ok (.istore 4, 2) := by decide +kernel
theorem dX5_looks_31 : decode cX5_looks 31 = .ok (.iload 4, 2) := by decide +kernel
theorem dX5_looks_33 : decode cX5_looks 33 = .ok (.aload_n 0, 1) := by decide +kernel
theorem dX5_looks_34 : decode cX5_looks 34 = .ok (.getfield 33, 3) := by decide +kernel
theorem dX5_looks_37 : decode cX5_looks 37 = .ok (.invokevirtual 218, 3) := by decide +kernel
theorem dX5_looks_40 : decode cX5_looks 40 = .ok (.if_icmp .ge 38, 3) := by decide +kernel
theorem dX5_looks_43 : decode cX5_looks 43 = .ok (.iload 4, 2) := by decide +kernel
theorem dX5_looks_45 : decode cX5_looks 45 = .ok (.invokestatic 213, 3) := by decide +kernel
theorem dX5_looks_48 : decode cX5_looks 48 = .ok (.iload_n 2, 1) := by decide +kernel
theorem dX5_looks_49 : decode cX5_looks 49 = .ok (.invokestatic 213, 3) := by decide +kernel
theorem dX5_looks_52 : decode cX5_looks 52 = .ok (.if_icmp .ge 20, 3) := by decide +kernel
theorem dX5_looks_55 : decode cX5_looks 55 = .ok (.aload_n 0, 1) := by decide +kernel
theorem dX5_looks_56 : decode cX5_looks 56 = .ok (.getfield 33, 3) := by decide +kernel
theorem dX5_looks_59 : decode cX5_looks 59 = .ok (.iload 4, 2) := by decide +kernel
theorem dX5_looks_61 : decode cX5_looks 61 = .ok (.iload_n 1, 1) := by decide +kernel
theorem dX5_looks_62 : decode cX5_looks 62 = .ok (.invokevirtual 210, 3) := by decide +kernel
theorem dX5_looks_65 : decode cX5_looks 65 = .ok (.iload_n 3, 1) := by decide +kernel
theorem dX5_looks_66 : decode cX5_looks 66 = .ok (.if_icmp .ne 6, 3) := by decide +kernel
theorem dX5_looks_69 : decode cX5_looks 69 = .ok (.iload 4, 2) := by decide +kernel
theorem dX5_looks_71 : decode cX5_looks 71 = .ok (.istore_n 2, 1) := by decide +kernel
theorem dX5_looks_72 : decode cX5_looks 72 = .ok (.iinc 4 1, 3) := by decide +kernel
theorem dX5_looks_75 : decode cX5_looks 75 = .ok (.goto (-44), 3) := by decide +kernel
theorem dX5_looks_78 : decode cX5_looks 78 = .ok (.aload_n 0, 1) := by decide +kernel
theorem dX5_looks_79 : decode cX5_looks 79 = .ok (.iload_n 2, 1) := by decide +kernel
theorem dX5_looks_80 : decode cX5_looks 80 = .ok (.putfield 71, 3) := by decide +kernel
theorem dX5_looks_83 : decode cX5_looks 83 = .ok (.iload_n 2, 1) := by decide +kernel
theorem dX5_looks_84 : decode cX5_looks 84 = .ok (.invokestatic 213, 3) := by decide +kernel
theorem dX5_looks_87 : decode cX5_looks 87 = .ok (.ireturn, 1) := by decide +kernel
set_option maxRecDepth 20000 in
theorem ggX5_line_X5_isPast : GoodIn wsX5_line wsX5_isPast := goodIn_r _ [7, 1, 36, 37, 38, 39, 40, 41, 42, 43, 44, 45, 46, 47, 48, 49, 50, 51, 52, 53, 54, 55, 56, 57, 58, 59, 60, 61, 62] (by decide +kernel) (by decide +kernel)
set_option maxRecDepth 20000 in
theorem gX5_line_X5_isPast : GoodIn wsX5_line (wsV RX5 160 RX5 yX5_isPast wsX5_isPast) := goodIn_app (goodIn_of _ (by decide +kernel)) ggX5_line_X5_isPast
set_option maxRecDepth 20000 in
theorem ggX5_line_X0_hemOf : GoodIn wsX5_line wsX0_hemOf := goodIn_r _ [12, 13, 14, 15, 6, 16, 17, 18, 19, 11, 20, 21, 22, 23, 24, 25, 26, 27, 28, 29, 30, 31, 32, 33, 34, 35, 48, 49, 50, 51, 52, 53, 54, 55, 56, 57, 58, 59, 60, 61, 62] (by decide +kernel) (by decide +kernel)
set_option maxRecDepth 20000 in
theorem gX5_line_X0_hemOf : GoodIn wsX5_line (wsV RX5 151 RX0 yX0_hemOf wsX0_hemOf) := goodIn_app (goodIn_of _ (by decide +kernel)) ggX5_line_X0_hemOf
theorem dX5_line_0 : decode cX5_line 0 = .ok (.aload_n 0, 1) := by decide +kernel
theorem dX5_line_1 : decode cX5_line 1 = .ok (.iload_n 1, 1) := by decide +kernel
theorem dX5_line_2 : decode cX5_line 2 = .ok (.invokevirtual 160, 3) := by decide +kernel
theorem dX5_line_5 : decode cX5_line 5 = .ok (.ifCond .ne 5, 3) := by decide +kernel
theorem dX5_line_8 : decode cX5_line 8 = .ok (.iconst (-1), 1) := by decide +kernel
theorem dX5_line_9 : decode cX5_line 9 = .ok (.ireturn, 1) := by decide +kernel
theorem dX5_line_10 : decode cX5_line 10 = .ok (.iconst 0, 1) := by decide +kernel
theorem dX5_line_11 : decode cX5_line 11 = .ok (.istore_n 2, 1) := by decide +kernel
theorem dX5_line_12 : decode cX5_line 12 = .ok (.iconst 0, 1) := by decide +kernel
theorem dX5_line_13 : decode cX5_line 13 = .ok (.istore_n 3, 1) := by decide +kernel
theorem dX5_line_14 : decode cX5_line 14 = .ok (.iconst 0, 1) := by decide +kernel
theorem dX5_line_15 : decode cX5_line 15 = .ok (.istore 4, 2) := by decide +kernel
theorem dX5_line_17 : decode cX5_line 17 = .ok (.iload 4, 2) := by decide +kernel
theorem dX5_line_19 : decode cX5_line 19 = .ok (.aload_n 0, 1) := by decide +kernel
theorem dX5_line_20 : decode cX5_line 20 = .ok (.getfield 33, 3) := by decide +kernel
theorem dX5_line_23 : decode cX5_line 23 = .ok (.getfield 126, 3) := by decide +kernel
theorem dX5_line_26 : decode cX5_line 26 = .ok (.if_icmp .ge 84, 3) := by decide +kernel
theorem dX5_line_29 : decode cX5_line 29 = .ok (.iload 4, 2) := by decide +kernel
theorem dX5_line_31 : decode cX5_line 31 = .ok (.iconst 1, 1) := by decide +kernel
theorem dX5_line_32 : decode cX5_line 32 = .ok (.iadd, 1) := by decide +kernel
theorem dX5_line_33 : decode cX5_line 33 = .ok (.istore 5, 2) := by decide +kernel
theorem dX5_line_35 : decode cX5_line 35 = .ok (.iload 5, 2) := by decide +kernel
theorem dX5_line_37 : decode cX5_line 37 = .ok (.aload_n 0, 1) := by decide +kernel
theorem dX5_line_38 : decode cX5_line 38 = .ok (.getfield 33, 3) := by decide +kernel
theorem dX5_line_41 : decode cX5_line 41 = .ok (.getfield 126, 3) := by decide +kernel
theorem dX5_line_44 : decode cX5_line 44 = .ok (.if_icmp .ge 35, 3) := by decide +kernel
theorem dX5_line_47 : decode cX5_line 47 = .ok (.aload_n 0, 1) := by decide +kernel
theorem dX5_line_48 : decode cX5_line 48 = .ok (.getfield 33, 3) := by decide +kernel
theorem dX5_line_51 : decode cX5_line 51 = .ok (.iload 5, 2) := by decide +kernel
theorem dX5_line_53 : decode cX5_line 53 = .ok (.iload_n 1, 1) := by decide +kernel
theorem dX5_line_54 : decode cX5_line 54 = .ok (.invokevirtual 151, 3) := by decide +kernel
theorem dX5_line_57 : decode cX5_line 57 = .ok (.aload_n 0, 1) := by decide +kernel
theorem dX5_line_58 : decode cX5_line 58 = .ok (.getfield 33, 3) := by decide +kernel
theorem dX5_line_61 : decode cX5_line 61 = .ok (.iload 4, 2) := by decide +kernel
theorem dX5_line_63 : decode cX5_line 63 = .ok (.iload_n 1, 1) := by decide +kernel
theorem dX5_line_64 : decode cX5_line 64 = .ok (.invokevirtual 151, 3) := by decide +kernel
theorem dX5_line_67 : decode cX5_line 67 = .ok (.if_icmp .ge 6, 3) := by decide +kernel
theorem dX5_line_70 : decode cX5_line 70 = .ok (.iinc 2 1, 3) := by decide +kernel
theorem dX5_line_73 : decode cX5_line 73 = .ok (.iinc 5 1, 3) := by decide +kernel
theorem dX5_line_76 : decode cX5_line 76 = .ok (.goto (-41), 3) := by decide +kernel
theorem dX5_line_79 : decode cX5_line 79 = .ok (.aload_n 0, 1) := by decide +kernel
theorem dX5_line_80 : decode cX5_line 80 = .ok (.getfield 33, 3) := by decide +kernel
theorem dX5_line_83 : decode cX5_line 83 = .ok (.iload 4, 2) := by decide +kernel
theorem dX5_line_85 : decode cX5_line 85 = .ok (.iload_n 1, 1) := by decide +kernel
theorem dX5_line_86 : decode cX5_line 86 = .ok (.invokevirtual 151, 3) := by decide +kernel
theorem dX5_line_89 : decode cX5_line 89 = .ok (.aload_n 0, 1) := by decide +kernel
theorem dX5_line_90 : decode cX5_line 90 = .ok (.getfield 33, 3) := by decide +kernel
theorem dX5_line_93 : decode cX5_line 93 = .ok (.iload_n 3, 1) := by decide +kernel
theorem dX5_line_94 : decode cX5_line 94 = .ok (.iload_n 1, 1) := by decide +kernel
theorem dX5_line_95 : decode cX5_line 95 = .ok (.invokevirtual 151, 3) := by decide +kernel
theorem dX5_line_98 : decode cX5_line 98 = .ok (.if_icmp .ge 6, 3) := by decide +kernel
theorem dX5_line_101 : decode cX5_line 101 = .ok (.iload 4, 2) := by decide +kernel
theorem dX5_line_103 : decode cX5_line 103 = .ok (.istore_n 3, 1) := by decide +kernel
theorem dX5_line_104 : decode cX5_line 104 = .ok (.iinc 4 1, 3) := by decide +kernel
theorem dX5_line_107 : decode cX5_line 107 = .ok (.goto (-90), 3) := by decide +kernel
theorem dX5_line_110 : decode cX5_line 110 = .ok (.aload_n 0, 1) := by decide +kernel
theorem dX5_line_111 : decode cX5_line 111 = .ok (.iload_n 3, 1) := by decide +kernel
theorem dX5_line_112 : decode cX5_line 112 = .ok (.putfield 71, 3) := by decide +kernel
theorem dX5_line_115 : decode cX5_line 115 = .ok (.iload_n 2, 1) := by decide +kernel
theorem dX5_line_116 : decode cX5_line 116 = .ok (.ireturn, 1) := by decide +kernel
set_option maxRecDepth 20000 in
theorem ggX5_kinds_X5_refusalOfPairs : GoodIn wsX5_kinds wsX5_refusalOfPairs := goodIn_r _ [5, 6, 7, 8, 9, 4, 10, 11, 12, 13, 14, 15, 16, 17, 18, 19, 20, 21, 22, 23, 24, 25, 26, 27, 28, 29, 30, 31, 32, 33, 34, 35, 36, 37, 38, 39, 40, 41, 42, 43, 44, 45, 46, 47, 48, 49, 50, 51, 52, 53, 54, 55, 56, 57, 58, 59, 98, 99, 100, 101, 102, 103, 104, 105, 106, 107, 108, 109, 110, 111, 112, 113, 114, 115, 116, 117, 118, 119, 120, 121, 122, 123, 124, 125, 126] (by decide +kernel) (by decide +kernel)
set_option maxRecDepth 20000 in
theorem gX5_kinds_X5_refusalOfPairs : GoodIn wsX5_kinds (wsV RX5 231 RX5 yX5_refusalOfPairs wsX5_refusalOfPairs) := goodIn_app (goodIn_of _ (by decide +kernel)) ggX5_kinds_X5_refusalOfPairs
set_option maxRecDepth 20000 in
theorem ggX5_kinds_X5_kindsBy : GoodIn wsX5_kinds wsX5_kindsBy := goodIn_r _ [63, 64, 65, 66, 4, 67, 6, 11, 44, 28, 29, 19, 30, 21, 31, 17, 18, 20, 22, 45, 46, 47, 48, 49, 50, 51, 52, 27, 53, 54, 55, 56, 39, 40, 68, 69, 70, 71, 72, 73, 74, 75, 76, 77, 78, 79, 80, 81, 82, 83, 84, 85, 86, 87, 88, 89, 90, 91, 92, 93, 94, 95, 96, 97, 98, 99, 100, 101, 102, 103, 104, 105, 106, 107, 108, 109, 125, 126, 110, 111, 112, 113, 114, 115, 116, 117, 118, 119, 120, 121, 122, 123, 124] (by decide +kernel) (by decide +kernel)
set_option maxRecDepth 20000 in
theorem gX5_kinds_X5_kindsBy : GoodIn wsX5_kinds (wsV RX5 234 RX5 yX5_kindsBy wsX5_kindsBy) := goodIn_app (goodIn_of _ (by decide +kernel)) ggX5_kinds_X5_kindsBy
theorem dX5_kinds_0 : decode cX5_kinds 0 = .ok (.aload_n 0, 1) := by decide +kernel
theorem dX5_kinds_1 : decode cX5_kinds 1 = .ok (.iload_n 1, 1) := by decide +kernel
theorem dX5_kinds_2 : decode cX5_kinds 2 = .ok (.iload_n 2, 1) := by decide +kernel
theorem dX5_kinds_3 : decode cX5_kinds 3 = .ok (.invokevirtual 231, 3) := by decide +kernel
theorem dX5_kinds_6 : decode cX5_kinds 6 = .ok (.istore_n 3, 1) := by decide +kernel
theorem dX5_kinds_7 : decode cX5_kinds 7 = .ok (.iload_n 3, 1) := by decide +kernel
theorem dX5_kinds_8 : decode cX5_kinds 8 = .ok (.ifCond .eq 7, 3) := by decide +kernel
theorem dX5_kinds_11 : decode cX5_kinds 11 = .ok (.iload_n 3, 1) := by decide +kernel
theorem dX5_kinds_12 : decode cX5_kinds 12 = .ok (.goto 9, 3) := by decide +kernel
theorem dX5_kinds_15 : decode cX5_kinds 15 = .ok (.aload_n 0, 1) := by decide +kernel
theorem dX5_kinds_16 : decode cX5_kinds 16 = .ok (.iload_n 1, 1) := by decide +kernel
theorem dX5_kinds_17 : decode cX5_kinds 17 = .ok (.iload_n 2, 1) := by decide +kernel
theorem dX5_kinds_18 : decode cX5_kinds 18 = .ok (.invokevirtual 234, 3) := by decide +kernel
theorem dX5_kinds_21 : decode cX5_kinds 21 = .ok (.ireturn, 1) := by decide +kernel
set_option maxRecDepth 20000 in
theorem ggX5_test_X5_refusalOfPairs : GoodIn wsX5_test wsX5_refusalOfPairs := goodIn_r _ [6, 7, 8, 9, 10, 5, 11, 12, 13, 14, 15, 16, 17, 18, 19, 20, 21, 22, 23, 24, 25, 26, 27, 28, 29, 30, 31, 32, 33, 34, 35, 36, 37, 38, 39, 40, 41, 42, 43, 44, 45, 46, 47, 48, 49, 50, 51, 52, 53, 54, 55, 56, 57, 58, 59, 60, 116, 117, 118, 119, 120, 121, 122, 123, 124, 125, 126, 127, 128, 129, 130, 131, 132, 133, 134, 135, 136, 137, 138, 139, 140, 141, 142, 143, 144] (by decide +kernel) (by decide +kernel)
set_option maxRecDepth 20000 in
theorem gX5_test_X5_refusalOfPairs : GoodIn wsX5_test (wsV RX5 231 RX5 yX5_refusalOfPairs wsX5_refusalOfPairs) := goodIn_app (goodIn_of _ (by decide +kernel)) ggX5_test_X5_refusalOfPairs
set_option maxRecDepth 20000 in
theorem ggX5_test_X5_kindsBy : GoodIn wsX5_test wsX5_kindsBy := goodIn_r _ [64, 65, 66, 67, 5, 68, 7, 12, 45, 29, 30, 20, 31, 22, 32, 18, 19, 21, 23, 46, 47, 48, 49, 50, 51, 52, 53, 28, 54, 55, 56, 57, 40, 41, 69, 70, 71, 72, 73, 74, 75, 76, 77, 78, 79, 80, 81, 82, 83, 84, 85, 86, 87, 88, 89, 90, 91, 92, 93, 94, 95, 96, 97, 98, 116, 117, 118, 119, 120, 121, 122, 123, 124, 125, 126, 127, 143, 144, 128, 129, 130, 131, 132, 133, 134, 135, 136, 137, 138, 139, 140, 141, 142] (by decide +kernel) (by decide +kernel)
set_option maxRecDepth 20000 in
theorem gX5_test_X5_kindsBy : GoodIn wsX5_test (wsV RX5 234 RX5 yX5_kindsBy wsX5_kindsBy) := goodIn_app (goodIn_of _ (by decide +kernel)) ggX5_test_X5_kindsBy
set_option maxRecDepth 20000 in
theorem ggX5_test_X5_greatestPartOfKinds : GoodIn wsX5_test wsX5_greatestPartOfKinds := goodIn_r _ [102, 103, 12, 104, 82, 83, 84, 105, 106, 107, 108, 109, 110, 5, 111, 69, 70, 71, 72, 73, 74, 75, 76, 77, 78, 79, 80, 81, 85, 86, 87, 88, 89, 90, 40, 41, 91, 92, 93, 94, 95, 96, 97, 98, 112, 113, 114, 115, 39, 42, 43, 44, 116, 117, 118, 119, 120, 121, 122, 123, 124, 125, 126, 127, 128, 129, 130, 131, 132, 133, 134, 135, 136, 137, 138, 139, 140, 141, 142] (by decide +kernel) (by decide +kernel)
set_option maxRecDepth 20000 in
theorem gX5_test_X5_greatestPartOfKinds : GoodIn wsX5_test (wsV RX5 237 RX5 yX5_greatestPartOfKinds wsX5_greatestPartOfKinds) := goodIn_app (goodIn_of _ (by decide +kernel)) ggX5_test_X5_greatestPartOfKinds
theorem dX5_test_0 : decode cX5_test 0 = .ok (.aload_n 0, 1) := by decide +kernel
theorem dX5_test_1 : decode cX5_test 1 = .ok (.iload_n 1, 1) := by decide +kernel
theorem dX5_test_2 : decode cX5_test 2 = .ok (.iload_n 2, 1) := by decide +kernel
theorem dX5_test_3 : decode cX5_test 3 = .ok (.invokevirtual 231, 3) := by decide +kernel
theorem dX5_test_6 : decode cX5_test 6 = .ok (.istore_n 3, 1) := by decide +kernel
theorem dX5_test_7 : decode cX5_test 7 = .ok (.iload_n 3, 1) := by decide +kernel
theorem dX5_test_8 : decode cX5_test 8 = .ok (.ifCond .eq 5, 3) := by decide +kernel
theorem dX5_test_11 : decode cX5_test 11 = .ok (.iload_n 3, 1) := by decide +kernel
theorem dX5_test_12 : decode cX5_test 12 = .ok (.ireturn, 1) := by decide +kernel
theorem dX5_test_13 : decode cX5_test 13 = .ok (.aload_n 0, 1) := by decide +kernel
theorem dX5_test_14 : decode cX5_test 14 = .ok (.iload_n 1, 1) := by decide +kernel
theorem dX5_test_15 : decode cX5_test 15 = .ok (.iload_n 2, 1) := by decide +kernel
theorem dX5_test_16 : decode cX5_test 16 = .ok (.invokevirtual 234, 3) := by decide +kernel
theorem dX5_test_19 : decode cX5_test 19 = .ok (.istore 4, 2) := by decide +kernel
theorem dX5_test_21 : decode cX5_test 21 = .ok (.iload 4, 2) := by decide +kernel
theorem dX5_test_23 : decode cX5_test 23 = .ok (.ifCond .ne 6, 3) := by decide +kernel
theorem dX5_test_26 : decode cX5_test 26 = .ok (.bipush (-9), 2) := by decide +kernel
theorem dX5_test_28 : decode cX5_test 28 = .ok (.ireturn, 1) := by decide +kernel
theorem dX5_test_29 : decode cX5_test 29 = .ok (.iconst 0, 1) := by decide +kernel
theorem dX5_test_30 : decode cX5_test 30 = .ok (.istore 5, 2) := by decide +kernel
theorem dX5_test_32 : decode cX5_test 32 = .ok (.aload_n 0, 1) := by decide +kernel
theorem dX5_test_33 : decode cX5_test 33 = .ok (.iload_n 1, 1) := by decide +kernel
theorem dX5_test_34 : decode cX5_test 34 = .ok (.iconst 0, 1) := by decide +kernel
theorem dX5_test_35 : decode cX5_test 35 = .ok (.iload 4, 2) := by decide +kernel
theorem dX5_test_37 : decode cX5_test 37 = .ok (.invokevirtual 237, 3) := by decide +kernel
theorem dX5_test_40 : decode cX5_test 40 = .ok (.istore 6, 2) := by decide +kernel
theorem dX5_test_42 : decode cX5_test 42 = .ok (.iconst 1, 1) := by decide +kernel
theorem dX5_test_43 : decode cX5_test 43 = .ok (.istore 7, 2) := by decide +kernel
theorem dX5_test_45 : decode cX5_test 45 = .ok (.iload 7, 2) := by decide +kernel
theorem dX5_test_47 : decode cX5_test 47 = .ok (.bipush 20, 2) := by decide +kernel
theorem dX5_test_49 : decode cX5_test 49 = .ok (.if_icmp .gt 35, 3) := by decide +kernel
theorem dX5_test_52 : decode cX5_test 52 = .ok (.aload_n 0, 1) := by decide +kernel
theorem dX5_test_53 : decode cX5_test 53 = .ok (.iload_n 1, 1) := by decide +kernel
theorem dX5_test_54 : decode cX5_test 54 = .ok (.iload 7, 2) := by decide +kernel
theorem dX5_test_56 : decode cX5_test 56 = .ok (.iload 4, 2) := by decide +kernel
theorem dX5_test_58 : decode cX5_test 58 = .ok (.invokevirtual 237, 3) := by decide +kernel
theorem dX5_test_61 : decode cX5_test 61 = .ok (.istore 8, 2) := by decide +kernel
theorem dX5_test_63 : decode cX5_test 63 = .ok (.iload 8, 2) := by decide +kernel
theorem dX5_test_65 : decode cX5_test 65 = .ok (.iload 6, 2) := by decide +kernel
theorem dX5_test_67 : decode cX5_test 67 = .ok (.if_icmp .ge 11, 3) := by decide +kernel
theorem dX5_test_70 : decode cX5_test 70 = .ok (.iload 7, 2) := by decide +kernel
theorem dX5_test_72 : decode cX5_test 72 = .ok (.istore 5, 2) := by decide +kernel
theorem dX5_test_74 : decode cX5_test 74 = .ok (.iload 8, 2) := by decide +kernel
theorem dX5_test_76 : decode cX5_test 76 = .ok (.istore 6, 2) := by decide +kernel
theorem dX5_test_78 : decode cX5_test 78 = .ok (.iinc 7 1, 3) := by decide +kernel
theorem dX5_test_81 : decode cX5_test 81 = .ok (.goto (-36), 3) := by decide +kernel
theorem dX5_test_84 : decode cX5_test 84 = .ok (.aload_n 0, 1) := by decide +kernel
theorem dX5_test_85 : decode cX5_test 85 = .ok (.iload 6, 2) := by decide +kernel
theorem dX5_test_87 : decode cX5_test 87 = .ok (.putfield 71, 3) := by decide +kernel
theorem dX5_test_90 : decode cX5_test 90 = .ok (.iload 5, 2) := by decide +kernel
theorem dX5_test_92 : decode cX5_test 92 = .ok (.ireturn, 1) := by decide +kernel
set_option maxRecDepth 20000 in
theorem ggX5_whose_X4_isNumber : GoodIn wsX5_whose wsX4_isNumber := goodIn_r _ [8, 9, 10, 103, 104] (by decide +kernel) (by decide +kernel)
set_option maxRecDepth 20000 in
theorem gX5_whose_X4_isNumber : GoodIn wsX5_whose (wsV RX5 87 RX4 yX4_isNumber wsX4_isNumber) := goodIn_app (goodIn_of _ (by decide +kernel)) ggX5_whose_X4_isNumber
set_option maxRecDepth 20000 in
theorem ggX5_whose_X4_isThere : GoodIn wsX5_whose wsX4_isThere := goodIn_r _ [14, 15, 16, 17, 7, 18, 9, 19, 5, 6, 8, 10, 103, 104] (by decide +kernel) (by decide +kernel)
set_option maxRecDepth 20000 in
theorem gX5_whose_X4_isThere : GoodIn wsX5_whose (wsV RX5 95 RX4 yX4_isThere wsX4_isThere) := goodIn_app (goodIn_of _ (by decide +kernel)) ggX5_whose_X4_isThere
set_option maxRecDepth 20000 in
theorem ggX5_whose_X5_found : GoodIn wsX5_whose wsX5_found := goodIn_r _ [24, 25, 26, 27, 28, 23, 29, 30, 31, 32, 76, 77, 78, 79, 80, 81, 82, 83, 84, 85, 86, 87] (by decide +kernel) (by decide +kernel)
set_option maxRecDepth 20000 in
theorem gX5_whose_X5_found : GoodIn wsX5_whose (wsV RX5 91 RX5 yX5_found wsX5_found) := goodIn_app (goodIn_of _ (by decide +kernel)) ggX5_whose_X5_found
set_option maxRecDepth 20000 in
theorem ggX5_whose_X4_sizeOf : GoodIn wsX5_whose wsX4_sizeOf := goodIn_r _ [18, 9, 19, 5, 6, 7, 8, 10, 103, 104] (by decide +kernel) (by decide +kernel)
set_option maxRecDepth 20000 in
theorem gX5_whose_X4_sizeOf : GoodIn wsX5_whose (wsV RX5 106 RX4 yX4_sizeOf wsX4_sizeOf) := goodIn_app (goodIn_of _ (by decide +kernel)) ggX5_whose_X4_sizeOf
set_option maxRecDepth 20000 in
theorem ggX5_whose_X5_hemsBeginAs : GoodIn wsX5_whose wsX5_hemsBeginAs := goodIn_r _ [37, 1, 2, 33, 16, 17, 7, 18, 9, 19, 5, 6, 8, 10, 38, 39, 40, 41, 42, 43, 44, 28, 23, 29, 45, 46, 47, 48, 49, 50, 51, 52, 53, 54, 55, 56, 57, 58, 59, 60, 61, 62, 63, 64, 65, 66, 67, 68, 69, 70, 71, 15, 72, 73, 74, 75, 76, 77, 78, 79, 80, 81, 82, 83, 84, 85, 86, 87, 103, 104, 88, 89, 90, 91, 92, 93, 94, 95, 96, 97, 98, 99, 100, 101, 102] (by decide +kernel) (by decide +kernel)
set_option maxRecDepth 20000 in
theorem gX5_whose_X5_hemsBeginAs : GoodIn wsX5_whose (wsV RX5 240 RX5 yX5_hemsBeginAs wsX5_hemsBeginAs) := goodIn_app (goodIn_of _ (by decide +kernel)) ggX5_whose_X5_hemsBeginAs
theorem dX5_whose_0 : decode cX5_whose 0 = .ok (.aload_n 0, 1) := by decide +kernel
theorem dX5_whose_1 : decode cX5_whose 1 = .ok (.getfield 16, 3) := by decide +kernel
theorem dX5_whose_4 : decode cX5_whose 4 = .ok (.iload_n 1, 1) := by decide +kernel
theorem dX5_whose_5 : decode cX5_whose 5 = .ok (.invokevirtual 87, 3) := by decide +kernel
theorem dX5_whose_8 : decode cX5_whose 8 = .ok (.ifCond .ne 5, 3) := by decide +kernel
theorem dX5_whose_11 : decode cX5_whose 11 = .ok (.iconst (-1), 1) := by decide +kernel
theorem dX5_whose_12 : decode cX5_whose 12 = .ok (.ireturn, 1) := by decide +kernel
theorem dX5_whose_13 : decode cX5_whose 13 = .ok (.aload_n 0, 1) := by decide +kernel
theorem dX5_whose_14 : decode cX5_whose 14 = .ok (.getfield 33, 3) := by decide +kernel
theorem dX5_whose_17 : decode cX5_whose 17 = .ok (.getfield 126, 3) := by decide +kernel
theorem dX5_whose_20 : decode cX5_whose 20 = .ok (.ifCond .ne 6, 3) := by decide +kernel
theorem dX5_whose_23 : decode cX5_whose 23 = .ok (.bipush (-4), 2) := by decide +kernel
theorem dX5_whose_25 : decode cX5_whose 25 = .ok (.ireturn, 1) := by decide +kernel
theorem dX5_whose_26 : decode cX5_whose 26 = .ok (.aload_n 0, 1) := by decide +kernel
theorem dX5_whose_27 : decode cX5_whose 27 = .ok (.getfield 16, 3) := by decide +kernel
theorem dX5_whose_30 : decode cX5_whose 30 = .ok (.iload_n 1, 1) := by decide +kernel
theorem dX5_whose_31 : decode cX5_whose 31 = .ok (.invokevirtual 95, 3) := by decide +kernel
theorem dX5_whose_34 : decode cX5_whose 34 = .ok (.ifCond .ne 9, 3) := by decide +kernel
theorem dX5_whose_37 : decode cX5_whose 37 = .ok (.aload_n 0, 1) := by decide +kernel
theorem dX5_whose_38 : decode cX5_whose 38 = .ok (.iconst 1, 1) := by decide +kernel
theorem dX5_whose_39 : decode cX5_whose 39 = .ok (.invokevirtual 91, 3) := by decide +kernel
theorem dX5_whose_42 : decode cX5_whose 42 = .ok (.ireturn, 1) := by decide +kernel
theorem dX5_whose_43 : decode cX5_whose 43 = .ok (.aload_n 0, 1) := by decide +kernel
theorem dX5_whose_44 : decode cX5_whose 44 = .ok (.getfield 16, 3) := by decide +kernel
theorem dX5_whose_47 : decode cX5_whose 47 = .ok (.iload_n 1, 1) := by decide +kernel
theorem dX5_whose_48 : decode cX5_whose 48 = .ok (.invokevirtual 106, 3) := by decide +kernel
theorem dX5_whose_51 : decode cX5_whose 51 = .ok (.aload_n 0, 1) := by decide +kernel
theorem dX5_whose_52 : decode cX5_whose 52 = .ok (.getfield 33, 3) := by decide +kernel
theorem dX5_whose_55 : decode cX5_whose 55 = .ok (.getfield 148, 3) := by decide +kernel
theorem dX5_whose_58 : decode cX5_whose 58 = .ok (.if_icmp .le 9, 3) := by decide +kernel
theorem dX5_whose_61 : decode cX5_whose 61 = .ok (.aload_n 0, 1) := by decide +kernel
theorem dX5_whose_62 : decode cX5_whose 62 = .ok (.iconst 5, 1) := by decide +kernel
theorem dX5_whose_63 : decode cX5_whose 63 = .ok (.invokevirtual 91, 3) := by decide +kernel
theorem dX5_whose_66 : decode cX5_whose 66 = .ok (.ireturn, 1) := by decide +kernel
theorem dX5_whose_67 : decode cX5_whose 67 = .ok (.iconst 0, 1) := by decide +kernel
theorem dX5_whose_68 : decode cX5_whose 68 = .ok (.istore_n 2, 1) := by decide +kernel
theorem dX5_whose_69 : decode cX5_whose 69 = .ok (.iconst 0, 1) := by decide +kernel
theorem dX5_whose_70 : decode cX5_whose 70 = .ok (.istore_n 3, 1) := by decide +kernel
theorem dX5_whose_71 : decode cX5_whose 71 = .ok (.iload_n 3, 1) := by decide +kernel
theorem dX5_whose_72 : decode cX5_whose 72 = .ok (.aload_n 0, 1) := by decide +kernel
theorem dX5_whose_73 : decode cX5_whose 73 = .ok (.getfield 33, 3) := by decide +kernel
theorem dX5_whose_76 : decode cX5_whose 76 = .ok (.getfield 126, 3) := by decide +kernel
theorem dX5_whose_79 : decode cX5_whose 79 = .ok (.if_icmp .ge 24, 3) := by decide +kernel
theorem dX5_whose_82 : decode cX5_whose 82 = .ok (.aload_n 0, 1) := by decide +kernel
theorem dX5_whose_83 : decode cX5_whose 83 = .ok (.iload_n 3, 1) := by decide +kernel
theorem dX5_whose_84 : decode cX5_whose 84 = .ok (.iload_n 1, 1) := by decide +kernel
theorem dX5_whose_85 : decode cX5_whose 85 = .ok (.invokevirtual 240, 3) := by decide +kernel
theorem dX5_whose_88 : decode cX5_whose 88 = .ok (.ifCond .eq 9, 3) := by decide +kernel
theorem dX5_whose_91 : decode cX5_whose 91 = .ok (.iload_n 2, 1) := by decide +kernel
theorem dX5_whose_92 : decode cX5_whose 92 = .ok (.iconst 1, 1) := by decide +kernel
theorem dX5_whose_93 : decode cX5_whose 93 = .ok (.iload_n 3, 1) := by decide +kernel
theorem dX5_whose_94 : decode cX5_whose 94 = .ok (.ishl, 1) := by decide +kernel
theorem dX5_whose_95 : decode cX5_whose 95 = .ok (.ior, 1) := by decide +kernel
theorem dX5_whose_96 : decode cX5_whose 96 = .ok (.istore_n 2, 1) := by decide +kernel
theorem dX5_whose_97 : decode cX5_whose 97 = .ok (.iinc 3 1, 3) := by decide +kernel
theorem dX5_whose_100 : decode cX5_whose 100 = .ok (.goto (-29), 3) := by decide +kernel
theorem dX5_whose_103 : decode cX5_whose 103 = .ok (.aload_n 0, 1) := by decide +kernel
theorem dX5_whose_104 : decode cX5_whose 104 = .ok (.aload_n 0, 1) := by decide +kernel
theorem dX5_whose_105 : decode cX5_whose 105 = .ok (.getfield 16, 3) := by decide +kernel
theorem dX5_whose_108 : decode cX5_whose 108 = .ok (.iload_n 1, 1) := by decide +kernel
theorem dX5_whose_109 : decode cX5_whose 109 = .ok (.invokevirtual 106, 3) := by decide +kernel
theorem dX5_whose_112 : decode cX5_whose 112 = .ok (.aload_n 0, 1) := by decide +kernel
theorem dX5_whose_113 : decode cX5_whose 113 = .ok (.getfield 33, 3) := by decide +kernel
theorem dX5_whose_116 : decode cX5_whose 116 = .ok (.getfield 148, 3) := by decide +kernel
theorem dX5_whose_119 : decode cX5_whose 119 = .ok (.if_icmp .ne 7, 3) := by decide +kernel
theorem dX5_whose_122 : decode cX5_whose 122 = .ok (.iload_n 2, 1) := by decide +kernel
theorem dX5_whose_123 : decode cX5_whose 123 = .ok (.goto 4, 3) := by decide +kernel
theorem dX5_whose_126 : decode cX5_whose 126 = .ok (.iconst 0, 1) := by decide +kernel
theorem dX5_whose_127 : decode cX5_whose 127 = .ok (.putfield 71, 3) := by decide +kernel
theorem dX5_whose_130 : decode cX5_whose 130 = .ok (.iload_n 2, 1) := by decide +kernel
theorem dX5_whose_131 : decode cX5_whose 131 = .ok (.ireturn, 1) := by decide +kernel
set_option maxRecDepth 20000 in
theorem ggX5_raise_X5_isHeight : GoodIn wsX5_raise wsX5_isHeight := goodIn_r _ [7] (by decide +kernel) (by decide +kernel)
set_option maxRecDepth 20000 in
theorem gX5_raise_X5_isHeight : GoodIn wsX5_raise (va_wsS RX5 163 yX5_isHeight wsX5_isHeight) := goodIn_app (goodIn_of _ (by decide +kernel)) ggX5_raise_X5_isHeight
set_option maxRecDepth 20000 in
theorem ggX5_raise_X4_isNumber : GoodIn wsX5_raise wsX4_isNumber := goodIn_r _ [12, 13, 14, 131, 132] (by decide +kernel) (by decide +kernel)
set_option maxRecDepth 20000 in
theorem gX5_raise_X4_isNumber : GoodIn wsX5_raise (wsV RX5 87 RX4 yX4_isNumber wsX4_isNumber) := goodIn_app (goodIn_of _ (by decide +kernel)) ggX5_raise_X4_isNumber
set_option maxRecDepth 20000 in
theorem ggX5_raise_X0_room : GoodIn wsX5_raise wsX0_room := goodIn_r _ [19, 20, 21, 6, 22, 23, 24, 25, 116, 117, 118, 119, 120, 121, 122, 123, 124, 125, 126, 127, 128, 129, 130] (by decide +kernel) (by decide +kernel)
set_option maxRecDepth 20000 in
theorem gX5_raise_X0_room : GoodIn wsX5_raise (wsV RX5 243 RX0 yX0_room wsX0_room) := goodIn_app (goodIn_of _ (by decide +kernel)) ggX5_raise_X0_room
set_option maxRecDepth 20000 in
theorem ggX5_raise_X1_take : GoodIn wsX5_raise wsX1_take := goodIn_r _ [30, 31, 32, 33, 34, 35, 36, 37, 6, 38, 39, 40, 41, 42, 43, 44, 45, 46, 47, 48, 49, 24, 25, 50, 51, 133, 134, 135, 116, 117, 118, 119, 120, 121, 122, 123, 124, 125, 126, 127, 128, 129, 130] (by decide +kernel) (by decide +kernel)
set_option maxRecDepth 20000 in
theorem gX5_raise_X1_take : GoodIn wsX5_raise (wsV RX5 246 RX1 yX1_take wsX1_take) := goodIn_app (goodIn_of _ (by decide +kernel)) ggX5_raise_X1_take
set_option maxRecDepth 20000 in
theorem ggX5_raise_X1_leastWet : GoodIn wsX5_raise wsX1_leastWet := goodIn_r _ [55, 56, 57, 58, 59, 29, 60, 61, 50, 6, 51, 62, 63, 64, 65, 66, 40, 41, 42, 67, 68, 69, 70, 32, 31, 71, 72, 73, 24, 25, 74, 75, 76, 77, 133, 134, 135] (by decide +kernel) (by decide +kernel)
set_option maxRecDepth 20000 in
theorem gX5_raise_X1_leastWet : GoodIn wsX5_raise (wsV RX5 249 RX1 yX1_leastWet wsX1_leastWet) := goodIn_app (goodIn_of _ (by decide +kernel)) ggX5_raise_X1_leastWet
set_option maxRecDepth 20000 in
theorem ggX5_raise_X4_make : GoodIn wsX5_raise wsX4_make := goodIn_r _ [81, 13, 82, 83, 84, 11, 85, 14, 86, 9, 10, 12, 50, 6, 51, 87, 34, 35, 36, 131, 132] (by decide +kernel) (by decide +kernel)
set_option maxRecDepth 20000 in
theorem gX5_raise_X4_make : GoodIn wsX5_raise (wsV RX5 252 RX4 yX4_make wsX4_make) := goodIn_app (goodIn_of _ (by decide +kernel)) ggX5_raise_X4_make
set_option maxRecDepth 20000 in
theorem ggX5_raise_X1_fewestAt : GoodIn wsX5_raise wsX1_fewestAt := goodIn_r _ [91, 67, 68, 69, 29, 70, 32, 56, 31, 71, 72, 41, 73, 66, 40, 42, 24, 6, 25, 74, 75, 76, 77, 61, 133, 134, 135] (by decide +kernel) (by decide +kernel)
set_option maxRecDepth 20000 in
theorem gX5_raise_X1_fewestAt : GoodIn wsX5_raise (wsV RX5 255 RX1 yX1_fewestAt wsX1_fewestAt) := goodIn_app (goodIn_of _ (by decide +kernel)) ggX5_raise_X1_fewestAt
set_option maxRecDepth 20000 in
theorem ggX5_raise_X4_setCell : GoodIn wsX5_raise wsX4_setCell := goodIn_r _ [95, 96, 97, 98, 11, 99, 100, 101, 102, 103, 13, 86, 9, 10, 12, 14, 82, 83, 84, 85, 50, 6, 51, 131, 132] (by decide +kernel) (by decide +kernel)
set_option maxRecDepth 20000 in
theorem gX5_raise_X4_setCell : GoodIn wsX5_raise (wsV RX5 75 RX4 yX4_setCell wsX4_setCell) := goodIn_app (goodIn_of _ (by decide +kernel)) ggX5_raise_X4_setCell
theorem dX5_raise_0 : decode cX5_raise 0 = .ok (.iload_n 1, 1) := by decide +kernel
theorem dX5_raise_1 : decode cX5_raise 1 = .ok (.ifCond .lt 27, 3) := by decide +kernel
theorem dX5_raise_4 : decode cX5_raise 4 = .ok (.iload_n 1, 1) := by decide +kernel
theorem dX5_raise_5 : decode cX5_raise 5 = .ok (.bipush 6, 2) := by decide +kernel
theorem dX5_raise_7 : decode cX5_raise 7 = .ok (.if_icmp .gt 21, 3) := by decide +kernel
theorem dX5_raise_10 : decode cX5_raise 10 = .ok (.iload_n 2, 1) := by decide +kernel
theorem dX5_raise_11 : decode cX5_raise 11 = .ok (.invokestatic 163, 3) := by decide +kernel
theorem dX5_raise_14 : decode cX5_raise 14 = .ok (.ifCond .eq 14, 3) := by decide +kernel
theorem dX5_raise_17 : decode cX5_raise 17 = .ok (.aload_n 0, 1) := by decide +kernel
theorem dX5_raise_18 : decode cX5_raise 18 = .ok (.getfield 16, 3) := by decide +kernel
theorem dX5_raise_21 : decode cX5_raise 21 = .ok (.iload_n 3, 1) := by decide +kernel
theorem dX5_raise_22 : decode cX5_raise 22 = .ok (.invokevirtual 87, 3) := by decide +kernel
theorem dX5_raise_25 : decode cX5_raise 25 = .ok (.ifCond .ne 5, 3) := by decide +kernel
theorem dX5_raise_28 : decode cX5_raise 28 = .ok (.iconst (-1), 1) := by decide +kernel
theorem dX5_raise_29 : decode cX5_raise 29 = .ok (.ireturn, 1) := by decide +kernel
theorem dX5_raise_30 : decode cX5_raise 30 = .ok (.aload_n 0, 1) := by decide +kernel
theorem dX5_raise_31 : decode cX5_raise 31 = .ok (.getfield 33, 3) := by decide +kernel
theorem dX5_raise_34 : decode cX5_raise 34 = .ok (.getfield 126, 3) := by decide +kernel
theorem dX5_raise_37 : decode cX5_raise 37 = .ok (.ifCond .eq 14, 3) := by decide +kernel
theorem dX5_raise_40 : decode cX5_raise 40 = .ok (.aload_n 0, 1) := by decide +kernel
theorem dX5_raise_41 : decode cX5_raise 41 = .ok (.getfield 33, 3) := by decide +kernel
theorem dX5_raise_44 : decode cX5_raise 44 = .ok (.invokevirtual 243, 3) := by decide +kernel
theorem dX5_raise_47 : decode cX5_raise 47 = .ok (.iload_n 1, 1) := by decide +kernel
theorem dX5_raise_48 : decode cX5_raise 48 = .ok (.if_icmp .ge 6, 3) := by decide +kernel
theorem dX5_raise_51 : decode cX5_raise 51 = .ok (.bipush (-4), 2) := by decide +kernel
theorem dX5_raise_53 : decode cX5_raise 53 = .ok (.ireturn, 1) := by decide +kernel
theorem dX5_raise_54 : decode cX5_raise 54 = .ok (.aload_n 0, 1) := by decide +kernel
theorem dX5_raise_55 : decode cX5_raise 55 = .ok (.getfield 44, 3) := by decide +kernel
theorem dX5_raise_58 : decode cX5_raise 58 = .ok (.aload_n 0, 1) := by decide +kernel
theorem dX5_raise_59 : decode cX5_raise 59 = .ok (.getfield 33, 3) := by decide +kernel
theorem dX5_raise_62 : decode cX5_raise 62 = .ok (.invokevirtual 246, 3) := by decide +kernel
theorem dX5_raise_65 : decode cX5_raise 65 = .ok (.aload_n 0, 1) := by decide +kernel
theorem dX5_raise_66 : decode cX5_raise 66 = .ok (.getfield 44, 3) := by decide +kernel
theorem dX5_raise_69 : decode cX5_raise 69 = .ok (.iload_n 1, 1) := by decide +kernel
theorem dX5_raise_70 : decode cX5_raise 70 = .ok (.iload_n 2, 1) := by decide +kernel
theorem dX5_raise_71 : decode cX5_raise 71 = .ok (.invokevirtual 249, 3) := by decide +kernel
theorem dX5_raise_74 : decode cX5_raise 74 = .ok (.istore 4, 2) := by decide +kernel
theorem dX5_raise_76 : decode cX5_raise 76 = .ok (.aload_n 0, 1) := by decide +kernel
theorem dX5_raise_77 : decode cX5_raise 77 = .ok (.getfield 16, 3) := by decide +kernel
theorem dX5_raise_80 : decode cX5_raise 80 = .ok (.iload_n 3, 1) := by decide +kernel
theorem dX5_raise_81 : decode cX5_raise 81 = .ok (.bipush 6, 2) := by decide +kernel
theorem dX5_raise_83 : decode cX5_raise 83 = .ok (.iconst 0, 1) := by decide +kernel
