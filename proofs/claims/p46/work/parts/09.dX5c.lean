theorem dX5_raise_84 : decode cX5_raise 84 = .ok (.invokevirtual 252, 3) := by decide +kernel
theorem dX5_raise_87 : decode cX5_raise 87 = .ok (.iload_n 1, 1) := by decide +kernel
theorem dX5_raise_88 : decode cX5_raise 88 = .ok (.istore 5, 2) := by decide +kernel
theorem dX5_raise_90 : decode cX5_raise 90 = .ok (.iconst 0, 1) := by decide +kernel
theorem dX5_raise_91 : decode cX5_raise 91 = .ok (.istore 6, 2) := by decide +kernel
theorem dX5_raise_93 : decode cX5_raise 93 = .ok (.iload 6, 2) := by decide +kernel
theorem dX5_raise_95 : decode cX5_raise 95 = .ok (.bipush 6, 2) := by decide +kernel
theorem dX5_raise_97 : decode cX5_raise 97 = .ok (.if_icmp .ge 42, 3) := by decide +kernel
theorem dX5_raise_100 : decode cX5_raise 100 = .ok (.aload_n 0, 1) := by decide +kernel
theorem dX5_raise_101 : decode cX5_raise 101 = .ok (.getfield 44, 3) := by decide +kernel
theorem dX5_raise_104 : decode cX5_raise 104 = .ok (.iload 6, 2) := by decide +kernel
theorem dX5_raise_106 : decode cX5_raise 106 = .ok (.iload 5, 2) := by decide +kernel
theorem dX5_raise_108 : decode cX5_raise 108 = .ok (.iload_n 2, 1) := by decide +kernel
theorem dX5_raise_109 : decode cX5_raise 109 = .ok (.invokevirtual 255, 3) := by decide +kernel
theorem dX5_raise_112 : decode cX5_raise 112 = .ok (.istore 7, 2) := by decide +kernel
theorem dX5_raise_114 : decode cX5_raise 114 = .ok (.aload_n 0, 1) := by decide +kernel
theorem dX5_raise_115 : decode cX5_raise 115 = .ok (.getfield 16, 3) := by decide +kernel
theorem dX5_raise_118 : decode cX5_raise 118 = .ok (.iload_n 3, 1) := by decide +kernel
theorem dX5_raise_119 : decode cX5_raise 119 = .ok (.iload 6, 2) := by decide +kernel
theorem dX5_raise_121 : decode cX5_raise 121 = .ok (.iload 7, 2) := by decide +kernel
theorem dX5_raise_123 : decode cX5_raise 123 = .ok (.invokevirtual 75, 3) := by decide +kernel
theorem dX5_raise_126 : decode cX5_raise 126 = .ok (.iload 5, 2) := by decide +kernel
theorem dX5_raise_128 : decode cX5_raise 128 = .ok (.iload 7, 2) := by decide +kernel
theorem dX5_raise_130 : decode cX5_raise 130 = .ok (.isub, 1) := by decide +kernel
theorem dX5_raise_131 : decode cX5_raise 131 = .ok (.istore 5, 2) := by decide +kernel
theorem dX5_raise_133 : decode cX5_raise 133 = .ok (.iinc 6 1, 3) := by decide +kernel
theorem dX5_raise_136 : decode cX5_raise 136 = .ok (.goto (-43), 3) := by decide +kernel
theorem dX5_raise_139 : decode cX5_raise 139 = .ok (.iload 4, 2) := by decide +kernel
theorem dX5_raise_141 : decode cX5_raise 141 = .ok (.ireturn, 1) := by decide +kernel
set_option maxRecDepth 20000 in
theorem ggX5_dry_X0_groundUnder : GoodIn wsX5_dry wsX0_groundUnder := goodIn_r _ [10, 11, 12, 13, 14, 15, 28, 29, 30, 31, 32, 33, 34, 35, 36, 37, 38, 39, 40, 41, 42] (by decide +kernel) (by decide +kernel)
set_option maxRecDepth 20000 in
theorem gX5_dry_X0_groundUnder : GoodIn wsX5_dry (wsV RX5 258 RX0 yX0_groundUnder wsX0_groundUnder) := goodIn_app (goodIn_of _ (by decide +kernel)) ggX5_dry_X0_groundUnder
theorem dX5_dry_0 : decode cX5_dry 0 = .ok (.aload_n 0, 1) := by decide +kernel
theorem dX5_dry_1 : decode cX5_dry 1 = .ok (.getfield 33, 3) := by decide +kernel
theorem dX5_dry_4 : decode cX5_dry 4 = .ok (.getfield 126, 3) := by decide +kernel
theorem dX5_dry_7 : decode cX5_dry 7 = .ok (.ifCond .ne 6, 3) := by decide +kernel
theorem dX5_dry_10 : decode cX5_dry 10 = .ok (.bipush (-4), 2) := by decide +kernel
theorem dX5_dry_12 : decode cX5_dry 12 = .ok (.ireturn, 1) := by decide +kernel
theorem dX5_dry_13 : decode cX5_dry 13 = .ok (.bipush 9, 2) := by decide +kernel
theorem dX5_dry_15 : decode cX5_dry 15 = .ok (.istore_n 1, 1) := by decide +kernel
theorem dX5_dry_16 : decode cX5_dry 16 = .ok (.iconst 0, 1) := by decide +kernel
theorem dX5_dry_17 : decode cX5_dry 17 = .ok (.istore_n 2, 1) := by decide +kernel
theorem dX5_dry_18 : decode cX5_dry 18 = .ok (.iload_n 2, 1) := by decide +kernel
theorem dX5_dry_19 : decode cX5_dry 19 = .ok (.aload_n 0, 1) := by decide +kernel
theorem dX5_dry_20 : decode cX5_dry 20 = .ok (.getfield 33, 3) := by decide +kernel
theorem dX5_dry_23 : decode cX5_dry 23 = .ok (.getfield 126, 3) := by decide +kernel
theorem dX5_dry_26 : decode cX5_dry 26 = .ok (.if_icmp .ge 22, 3) := by decide +kernel
theorem dX5_dry_29 : decode cX5_dry 29 = .ok (.iload_n 1, 1) := by decide +kernel
theorem dX5_dry_30 : decode cX5_dry 30 = .ok (.aload_n 0, 1) := by decide +kernel
theorem dX5_dry_31 : decode cX5_dry 31 = .ok (.getfield 33, 3) := by decide +kernel
theorem dX5_dry_34 : decode cX5_dry 34 = .ok (.iload_n 2, 1) := by decide +kernel
theorem dX5_dry_35 : decode cX5_dry 35 = .ok (.invokevirtual 258, 3) := by decide +kernel
theorem dX5_dry_38 : decode cX5_dry 38 = .ok (.invokestatic 261, 3) := by decide +kernel
theorem dX5_dry_41 : decode cX5_dry 41 = .ok (.istore_n 1, 1) := by decide +kernel
theorem dX5_dry_42 : decode cX5_dry 42 = .ok (.iinc 2 1, 3) := by decide +kernel
theorem dX5_dry_45 : decode cX5_dry 45 = .ok (.goto (-27), 3) := by decide +kernel
theorem dX5_dry_48 : decode cX5_dry 48 = .ok (.iload_n 1, 1) := by decide +kernel
theorem dX5_dry_49 : decode cX5_dry 49 = .ok (.ireturn, 1) := by decide +kernel
set_option maxRecDepth 20000 in
theorem ggX5_least_X5_isWoman : GoodIn wsX5_least wsX5_isWoman := goodIn_r _ [10, 1, 23, 24, 25, 26, 27, 28, 29, 30, 31, 32, 33, 34, 35, 36, 37, 38, 39, 40, 41, 42, 43, 44, 45, 46, 47, 48, 49] (by decide +kernel) (by decide +kernel)
set_option maxRecDepth 20000 in
theorem gX5_least_X5_isWoman : GoodIn wsX5_least (wsV RX5 129 RX5 yX5_isWoman wsX5_isWoman) := goodIn_app (goodIn_of _ (by decide +kernel)) ggX5_least_X5_isWoman
set_option maxRecDepth 20000 in
theorem ggX5_least_X5_isHeight : GoodIn wsX5_least wsX5_isHeight := goodIn_r _ [13] (by decide +kernel) (by decide +kernel)
set_option maxRecDepth 20000 in
theorem gX5_least_X5_isHeight : GoodIn wsX5_least (va_wsS RX5 163 yX5_isHeight wsX5_isHeight) := goodIn_app (goodIn_of _ (by decide +kernel)) ggX5_least_X5_isHeight
set_option maxRecDepth 20000 in
theorem ggX5_least_X0_groundUnder : GoodIn wsX5_least wsX0_groundUnder := goodIn_r _ [18, 19, 20, 21, 9, 22, 35, 36, 37, 38, 39, 40, 41, 42, 43, 44, 45, 46, 47, 48, 49] (by decide +kernel) (by decide +kernel)
set_option maxRecDepth 20000 in
theorem gX5_least_X0_groundUnder : GoodIn wsX5_least (wsV RX5 258 RX0 yX0_groundUnder wsX0_groundUnder) := goodIn_app (goodIn_of _ (by decide +kernel)) ggX5_least_X0_groundUnder
theorem dX5_least_0 : decode cX5_least 0 = .ok (.aload_n 0, 1) := by decide +kernel
theorem dX5_least_1 : decode cX5_least 1 = .ok (.iload_n 1, 1) := by decide +kernel
theorem dX5_least_2 : decode cX5_least 2 = .ok (.invokevirtual 129, 3) := by decide +kernel
theorem dX5_least_5 : decode cX5_least 5 = .ok (.ifCond .eq 17, 3) := by decide +kernel
theorem dX5_least_8 : decode cX5_least 8 = .ok (.iload_n 2, 1) := by decide +kernel
theorem dX5_least_9 : decode cX5_least 9 = .ok (.invokestatic 163, 3) := by decide +kernel
theorem dX5_least_12 : decode cX5_least 12 = .ok (.ifCond .eq 10, 3) := by decide +kernel
theorem dX5_least_15 : decode cX5_least 15 = .ok (.iload_n 3, 1) := by decide +kernel
theorem dX5_least_16 : decode cX5_least 16 = .ok (.invokestatic 163, 3) := by decide +kernel
theorem dX5_least_19 : decode cX5_least 19 = .ok (.ifCond .ne 5, 3) := by decide +kernel
theorem dX5_least_22 : decode cX5_least 22 = .ok (.iconst (-1), 1) := by decide +kernel
theorem dX5_least_23 : decode cX5_least 23 = .ok (.ireturn, 1) := by decide +kernel
theorem dX5_least_24 : decode cX5_least 24 = .ok (.aload_n 0, 1) := by decide +kernel
theorem dX5_least_25 : decode cX5_least 25 = .ok (.getfield 33, 3) := by decide +kernel
theorem dX5_least_28 : decode cX5_least 28 = .ok (.iload_n 1, 1) := by decide +kernel
theorem dX5_least_29 : decode cX5_least 29 = .ok (.invokevirtual 258, 3) := by decide +kernel
theorem dX5_least_32 : decode cX5_least 32 = .ok (.istore 4, 2) := by decide +kernel
theorem dX5_least_34 : decode cX5_least 34 = .ok (.iconst 0, 1) := by decide +kernel
theorem dX5_least_35 : decode cX5_least 35 = .ok (.iload_n 2, 1) := by decide +kernel
theorem dX5_least_36 : decode cX5_least 36 = .ok (.iload_n 3, 1) := by decide +kernel
theorem dX5_least_37 : decode cX5_least 37 = .ok (.isub, 1) := by decide +kernel
theorem dX5_least_38 : decode cX5_least 38 = .ok (.iload 4, 2) := by decide +kernel
theorem dX5_least_40 : decode cX5_least 40 = .ok (.isub, 1) := by decide +kernel
theorem dX5_least_41 : decode cX5_least 41 = .ok (.invokestatic 266, 3) := by decide +kernel
theorem dX5_least_44 : decode cX5_least 44 = .ok (.istore 5, 2) := by decide +kernel
theorem dX5_least_46 : decode cX5_least 46 = .ok (.iload 4, 2) := by decide +kernel
theorem dX5_least_48 : decode cX5_least 48 = .ok (.iload 5, 2) := by decide +kernel
theorem dX5_least_50 : decode cX5_least 50 = .ok (.iadd, 1) := by decide +kernel
theorem dX5_least_51 : decode cX5_least 51 = .ok (.bipush 9, 2) := by decide +kernel
theorem dX5_least_53 : decode cX5_least 53 = .ok (.if_icmp .le 8, 3) := by decide +kernel
theorem dX5_least_56 : decode cX5_least 56 = .ok (.bipush (-9), 2) := by decide +kernel
theorem dX5_least_58 : decode cX5_least 58 = .ok (.goto 5, 3) := by decide +kernel
theorem dX5_least_61 : decode cX5_least 61 = .ok (.iload 5, 2) := by decide +kernel
theorem dX5_least_63 : decode cX5_least 63 = .ok (.ireturn, 1) := by decide +kernel
set_option maxRecDepth 20000 in
theorem ggX5_duel_X5_isHeight : GoodIn wsX5_duel wsX5_isHeight := goodIn_r _ [6] (by decide +kernel) (by decide +kernel)
set_option maxRecDepth 20000 in
theorem gX5_duel_X5_isHeight : GoodIn wsX5_duel (va_wsS RX5 163 yX5_isHeight wsX5_isHeight) := goodIn_app (goodIn_of _ (by decide +kernel)) ggX5_duel_X5_isHeight
set_option maxRecDepth 20000 in
theorem ggX5_duel_X1_take : GoodIn wsX5_duel wsX1_take := goodIn_r _ [11, 12, 13, 14, 15, 16, 17, 18, 5, 19, 20, 21, 22, 23, 24, 25, 26, 27, 28, 29, 30, 31, 32, 33, 34, 72, 73, 74, 57, 58, 59, 60, 61, 62, 63, 64, 65, 66, 67, 68, 69, 70, 71] (by decide +kernel) (by decide +kernel)
set_option maxRecDepth 20000 in
theorem gX5_duel_X1_take : GoodIn wsX5_duel (wsV RX5 246 RX1 yX1_take wsX1_take) := goodIn_app (goodIn_of _ (by decide +kernel)) ggX5_duel_X1_take
set_option maxRecDepth 20000 in
theorem ggX5_duel_X1_playedOut : GoodIn wsX5_duel wsX1_playedOut := goodIn_r _ [36, 37, 21, 22, 23, 38, 39, 40, 41, 42, 10, 43, 31, 5, 32, 44, 35, 33, 34] (by decide +kernel) (by decide +kernel)
set_option maxRecDepth 20000 in
theorem gX5_duel_X1_playedOut_n273 : GoodIn wsX5_duel (wsX1_playedOut) := ggX5_duel_X1_playedOut
theorem dX5_duel_0 : decode cX5_duel 0 = .ok (.iload_n 1, 1) := by decide +kernel
theorem dX5_duel_1 : decode cX5_duel 1 = .ok (.ifCond .lt 16, 3) := by decide +kernel
theorem dX5_duel_4 : decode cX5_duel 4 = .ok (.iload_n 1, 1) := by decide +kernel
theorem dX5_duel_5 : decode cX5_duel 5 = .ok (.bipush 6, 2) := by decide +kernel
theorem dX5_duel_7 : decode cX5_duel 7 = .ok (.if_icmp .gt 10, 3) := by decide +kernel
theorem dX5_duel_10 : decode cX5_duel 10 = .ok (.iload_n 2, 1) := by decide +kernel
theorem dX5_duel_11 : decode cX5_duel 11 = .ok (.invokestatic 163, 3) := by decide +kernel
theorem dX5_duel_14 : decode cX5_duel 14 = .ok (.ifCond .ne 5, 3) := by decide +kernel
theorem dX5_duel_17 : decode cX5_duel 17 = .ok (.iconst (-1), 1) := by decide +kernel
theorem dX5_duel_18 : decode cX5_duel 18 = .ok (.ireturn, 1) := by decide +kernel
theorem dX5_duel_19 : decode cX5_duel 19 = .ok (.aload_n 0, 1) := by decide +kernel
theorem dX5_duel_20 : decode cX5_duel 20 = .ok (.getfield 33, 3) := by decide +kernel
theorem dX5_duel_23 : decode cX5_duel 23 = .ok (.getfield 126, 3) := by decide +kernel
theorem dX5_duel_26 : decode cX5_duel 26 = .ok (.ifCond .ne 6, 3) := by decide +kernel
theorem dX5_duel_29 : decode cX5_duel 29 = .ok (.bipush (-4), 2) := by decide +kernel
theorem dX5_duel_31 : decode cX5_duel 31 = .ok (.ireturn, 1) := by decide +kernel
theorem dX5_duel_32 : decode cX5_duel 32 = .ok (.aload_n 0, 1) := by decide +kernel
theorem dX5_duel_33 : decode cX5_duel 33 = .ok (.getfield 44, 3) := by decide +kernel
theorem dX5_duel_36 : decode cX5_duel 36 = .ok (.aload_n 0, 1) := by decide +kernel
theorem dX5_duel_37 : decode cX5_duel 37 = .ok (.getfield 33, 3) := by decide +kernel
theorem dX5_duel_40 : decode cX5_duel 40 = .ok (.invokevirtual 246, 3) := by decide +kernel
theorem dX5_duel_43 : decode cX5_duel 43 = .ok (.iconst 0, 1) := by decide +kernel
theorem dX5_duel_44 : decode cX5_duel 44 = .ok (.iload_n 1, 1) := by decide +kernel
theorem dX5_duel_45 : decode cX5_duel 45 = .ok (.iload_n 2, 1) := by decide +kernel
theorem dX5_duel_46 : decode cX5_duel 46 = .ok (.aload_n 0, 1) := by decide +kernel
theorem dX5_duel_47 : decode cX5_duel 47 = .ok (.getfield 44, 3) := by decide +kernel
theorem dX5_duel_50 : decode cX5_duel 50 = .ok (.getfield 269, 3) := by decide +kernel
theorem dX5_duel_53 : decode cX5_duel 53 = .ok (.aload_n 0, 1) := by decide +kernel
theorem dX5_duel_54 : decode cX5_duel 54 = .ok (.getfield 44, 3) := by decide +kernel
theorem dX5_duel_57 : decode cX5_duel 57 = .ok (.getfield 270, 3) := by decide +kernel
theorem dX5_duel_60 : decode cX5_duel 60 = .ok (.invokestatic 273, 3) := by decide +kernel
theorem dX5_duel_63 : decode cX5_duel 63 = .ok (.bipush 100, 2) := by decide +kernel
theorem dX5_duel_65 : decode cX5_duel 65 = .ok (.iadd, 1) := by decide +kernel
theorem dX5_duel_66 : decode cX5_duel 66 = .ok (.ireturn, 1) := by decide +kernel
set_option maxRecDepth 20000 in
theorem ggX5_odds_X5_item : GoodIn wsX5_odds wsX5_item := goodIn_r _ [5] (by decide +kernel) (by decide +kernel)
set_option maxRecDepth 20000 in
theorem gX5_odds_X5_item : GoodIn wsX5_odds (va_wsS RX5 138 yX5_item wsX5_item) := goodIn_app (goodIn_of _ (by decide +kernel)) ggX5_odds_X5_item
set_option maxRecDepth 20000 in
theorem ggX5_odds_X0_howManyWet : GoodIn wsX5_odds wsX0_howManyWet := goodIn_r _ [10, 11, 12, 13, 14, 9, 15, 16, 17, 18, 19, 20, 21, 22, 23, 24, 25, 3, 4, 5, 47, 48, 49, 50, 51, 52, 53, 54, 55, 56, 57, 58, 59, 60, 61] (by decide +kernel) (by decide +kernel)
set_option maxRecDepth 20000 in
theorem gX5_odds_X0_howManyWet : GoodIn wsX5_odds (wsV RX5 176 RX0 yX0_howManyWet wsX0_howManyWet) := goodIn_app (goodIn_of _ (by decide +kernel)) ggX5_odds_X0_howManyWet
set_option maxRecDepth 20000 in
theorem ggX5_odds_X5_tellParts : GoodIn wsX5_odds wsX5_tellParts := goodIn_r _ [29, 30, 31, 32, 33, 4, 34, 35, 36, 37, 38, 39, 40, 41, 42, 43, 44, 45, 46] (by decide +kernel) (by decide +kernel)
set_option maxRecDepth 20000 in
theorem gX5_odds_X5_tellParts : GoodIn wsX5_odds (wsV RX5 277 RX5 yX5_tellParts wsX5_tellParts) := goodIn_app (goodIn_of _ (by decide +kernel)) ggX5_odds_X5_tellParts
theorem dX5_odds_0 : decode cX5_odds 0 = .ok (.iload_n 1, 1) := by decide +kernel
theorem dX5_odds_1 : decode cX5_odds 1 = .ok (.ifCond .lt 9, 3) := by decide +kernel
theorem dX5_odds_4 : decode cX5_odds 4 = .ok (.iload_n 1, 1) := by decide +kernel
theorem dX5_odds_5 : decode cX5_odds 5 = .ok (.bipush 6, 2) := by decide +kernel
theorem dX5_odds_7 : decode cX5_odds 7 = .ok (.if_icmp .le 5, 3) := by decide +kernel
theorem dX5_odds_10 : decode cX5_odds 10 = .ok (.iconst (-1), 1) := by decide +kernel
theorem dX5_odds_11 : decode cX5_odds 11 = .ok (.ireturn, 1) := by decide +kernel
theorem dX5_odds_12 : decode cX5_odds 12 = .ok (.aload_n 0, 1) := by decide +kernel
theorem dX5_odds_13 : decode cX5_odds 13 = .ok (.getfield 33, 3) := by decide +kernel
theorem dX5_odds_16 : decode cX5_odds 16 = .ok (.getfield 126, 3) := by decide +kernel
theorem dX5_odds_19 : decode cX5_odds 19 = .ok (.ifCond .eq 13, 3) := by decide +kernel
theorem dX5_odds_22 : decode cX5_odds 22 = .ok (.aload_n 0, 1) := by decide +kernel
theorem dX5_odds_23 : decode cX5_odds 23 = .ok (.getfield 33, 3) := by decide +kernel
theorem dX5_odds_26 : decode cX5_odds 26 = .ok (.getfield 148, 3) := by decide +kernel
theorem dX5_odds_29 : decode cX5_odds 29 = .ok (.ifCond .ne 6, 3) := by decide +kernel
theorem dX5_odds_32 : decode cX5_odds 32 = .ok (.bipush (-4), 2) := by decide +kernel
theorem dX5_odds_34 : decode cX5_odds 34 = .ok (.ireturn, 1) := by decide +kernel
theorem dX5_odds_35 : decode cX5_odds 35 = .ok (.iconst 0, 1) := by decide +kernel
theorem dX5_odds_36 : decode cX5_odds 36 = .ok (.istore_n 2, 1) := by decide +kernel
theorem dX5_odds_37 : decode cX5_odds 37 = .ok (.iconst 0, 1) := by decide +kernel
theorem dX5_odds_38 : decode cX5_odds 38 = .ok (.istore_n 3, 1) := by decide +kernel
theorem dX5_odds_39 : decode cX5_odds 39 = .ok (.iload_n 3, 1) := by decide +kernel
theorem dX5_odds_40 : decode cX5_odds 40 = .ok (.aload_n 0, 1) := by decide +kernel
theorem dX5_odds_41 : decode cX5_odds 41 = .ok (.getfield 33, 3) := by decide +kernel
theorem dX5_odds_44 : decode cX5_odds 44 = .ok (.getfield 148, 3) := by decide +kernel
theorem dX5_odds_47 : decode cX5_odds 47 = .ok (.if_icmp .ge 34, 3) := by decide +kernel
theorem dX5_odds_50 : decode cX5_odds 50 = .ok (.aload_n 0, 1) := by decide +kernel
theorem dX5_odds_51 : decode cX5_odds 51 = .ok (.getfield 33, 3) := by decide +kernel
theorem dX5_odds_54 : decode cX5_odds 54 = .ok (.aload_n 0, 1) := by decide +kernel
theorem dX5_odds_55 : decode cX5_odds 55 = .ok (.getfield 33, 3) := by decide +kernel
theorem dX5_odds_58 : decode cX5_odds 58 = .ok (.getfield 222, 3) := by decide +kernel
theorem dX5_odds_61 : decode cX5_odds 61 = .ok (.iload_n 3, 1) := by decide +kernel
theorem dX5_odds_62 : decode cX5_odds 62 = .ok (.invokestatic 138, 3) := by decide +kernel
theorem dX5_odds_65 : decode cX5_odds 65 = .ok (.invokevirtual 176, 3) := by decide +kernel
theorem dX5_odds_68 : decode cX5_odds 68 = .ok (.iload_n 1, 1) := by decide +kernel
theorem dX5_odds_69 : decode cX5_odds 69 = .ok (.if_icmp .lt 6, 3) := by decide +kernel
theorem dX5_odds_72 : decode cX5_odds 72 = .ok (.iinc 2 1, 3) := by decide +kernel
theorem dX5_odds_75 : decode cX5_odds 75 = .ok (.iinc 3 1, 3) := by decide +kernel
theorem dX5_odds_78 : decode cX5_odds 78 = .ok (.goto (-39), 3) := by decide +kernel
theorem dX5_odds_81 : decode cX5_odds 81 = .ok (.aload_n 0, 1) := by decide +kernel
theorem dX5_odds_82 : decode cX5_odds 82 = .ok (.iload_n 2, 1) := by decide +kernel
theorem dX5_odds_83 : decode cX5_odds 83 = .ok (.aload_n 0, 1) := by decide +kernel
theorem dX5_odds_84 : decode cX5_odds 84 = .ok (.getfield 33, 3) := by decide +kernel
theorem dX5_odds_87 : decode cX5_odds 87 = .ok (.getfield 148, 3) := by decide +kernel
theorem dX5_odds_90 : decode cX5_odds 90 = .ok (.invokevirtual 277, 3) := by decide +kernel
theorem dX5_odds_93 : decode cX5_odds 93 = .ok (.iconst 1, 1) := by decide +kernel
theorem dX5_odds_94 : decode cX5_odds 94 = .ok (.ireturn, 1) := by decide +kernel
set_option maxRecDepth 20000 in
theorem ggX5_mid_X5_item : GoodIn wsX5_mid wsX5_item := goodIn_r _ [5] (by decide +kernel) (by decide +kernel)
set_option maxRecDepth 20000 in
theorem gX5_mid_X5_item : GoodIn wsX5_mid (va_wsS RX5 138 yX5_item wsX5_item) := goodIn_app (goodIn_of _ (by decide +kernel)) ggX5_mid_X5_item
set_option maxRecDepth 20000 in
theorem ggX5_mid_X0_wetTogether : GoodIn wsX5_mid wsX0_wetTogether := goodIn_r _ [10, 11, 12, 13, 14, 9, 15, 16, 17, 18, 19, 20, 21, 22, 23, 24, 25, 3, 4, 5, 47, 48, 49, 50, 51, 52, 53, 54, 55, 56, 57, 58, 59, 60, 61] (by decide +kernel) (by decide +kernel)
set_option maxRecDepth 20000 in
theorem gX5_mid_X0_wetTogether : GoodIn wsX5_mid (wsV RX5 280 RX0 yX0_wetTogether wsX0_wetTogether) := goodIn_app (goodIn_of _ (by decide +kernel)) ggX5_mid_X0_wetTogether
set_option maxRecDepth 20000 in
theorem ggX5_mid_X5_tellParts : GoodIn wsX5_mid wsX5_tellParts := goodIn_r _ [29, 30, 31, 32, 33, 4, 34, 35, 36, 37, 38, 39, 40, 41, 42, 43, 44, 45, 46] (by decide +kernel) (by decide +kernel)
set_option maxRecDepth 20000 in
theorem gX5_mid_X5_tellParts : GoodIn wsX5_mid (wsV RX5 277 RX5 yX5_tellParts wsX5_tellParts) := goodIn_app (goodIn_of _ (by decide +kernel)) ggX5_mid_X5_tellParts
theorem dX5_mid_0 : decode cX5_mid 0 = .ok (.aload_n 0, 1) := by decide +kernel
theorem dX5_mid_1 : decode cX5_mid 1 = .ok (.getfield 33, 3) := by decide +kernel
theorem dX5_mid_4 : decode cX5_mid 4 = .ok (.getfield 126, 3) := by decide +kernel
theorem dX5_mid_7 : decode cX5_mid 7 = .ok (.ifCond .eq 13, 3) := by decide +kernel
theorem dX5_mid_10 : decode cX5_mid 10 = .ok (.aload_n 0, 1) := by decide +kernel
theorem dX5_mid_11 : decode cX5_mid 11 = .ok (.getfield 33, 3) := by decide +kernel
theorem dX5_mid_14 : decode cX5_mid 14 = .ok (.getfield 148, 3) := by decide +kernel
theorem dX5_mid_17 : decode cX5_mid 17 = .ok (.ifCond .ne 6, 3) := by decide +kernel
theorem dX5_mid_20 : decode cX5_mid 20 = .ok (.bipush (-4), 2) := by decide +kernel
theorem dX5_mid_22 : decode cX5_mid 22 = .ok (.ireturn, 1) := by decide +kernel
theorem dX5_mid_23 : decode cX5_mid 23 = .ok (.iconst 0, 1) := by decide +kernel
theorem dX5_mid_24 : decode cX5_mid 24 = .ok (.istore_n 1, 1) := by decide +kernel
theorem dX5_mid_25 : decode cX5_mid 25 = .ok (.iconst 0, 1) := by decide +kernel
theorem dX5_mid_26 : decode cX5_mid 26 = .ok (.istore_n 2, 1) := by decide +kernel
theorem dX5_mid_27 : decode cX5_mid 27 = .ok (.iload_n 2, 1) := by decide +kernel
theorem dX5_mid_28 : decode cX5_mid 28 = .ok (.aload_n 0, 1) := by decide +kernel
theorem dX5_mid_29 : decode cX5_mid 29 = .ok (.getfield 33, 3) := by decide +kernel
theorem dX5_mid_32 : decode cX5_mid 32 = .ok (.getfield 148, 3) := by decide +kernel
theorem dX5_mid_35 : decode cX5_mid 35 = .ok (.if_icmp .ge 30, 3) := by decide +kernel
theorem dX5_mid_38 : decode cX5_mid 38 = .ok (.iload_n 1, 1) := by decide +kernel
theorem dX5_mid_39 : decode cX5_mid 39 = .ok (.aload_n 0, 1) := by decide +kernel
theorem dX5_mid_40 : decode cX5_mid 40 = .ok (.getfield 33, 3) := by decide +kernel
theorem dX5_mid_43 : decode cX5_mid 43 = .ok (.aload_n 0, 1) := by decide +kernel
theorem dX5_mid_44 : decode cX5_mid 44 = .ok (.getfield 33, 3) := by decide +kernel
theorem dX5_mid_47 : decode cX5_mid 47 = .ok (.getfield 222, 3) := by decide +kernel
theorem dX5_mid_50 : decode cX5_mid 50 = .ok (.iload_n 2, 1) := by decide +kernel
theorem dX5_mid_51 : decode cX5_mid 51 = .ok (.invokestatic 138, 3) := by decide +kernel
theorem dX5_mid_54 : decode cX5_mid 54 = .ok (.invokevirtual 280, 3) := by decide +kernel
theorem dX5_mid_57 : decode cX5_mid 57 = .ok (.iadd, 1) := by decide +kernel
theorem dX5_mid_58 : decode cX5_mid 58 = .ok (.istore_n 1, 1) := by decide +kernel
theorem dX5_mid_59 : decode cX5_mid 59 = .ok (.iinc 2 1, 3) := by decide +kernel
theorem dX5_mid_62 : decode cX5_mid 62 = .ok (.goto (-35), 3) := by decide +kernel
theorem dX5_mid_65 : decode cX5_mid 65 = .ok (.aload_n 0, 1) := by decide +kernel
theorem dX5_mid_66 : decode cX5_mid 66 = .ok (.iload_n 1, 1) := by decide +kernel
theorem dX5_mid_67 : decode cX5_mid 67 = .ok (.aload_n 0, 1) := by decide +kernel
theorem dX5_mid_68 : decode cX5_mid 68 = .ok (.getfield 33, 3) := by decide +kernel
theorem dX5_mid_71 : decode cX5_mid 71 = .ok (.getfield 148, 3) := by decide +kernel
theorem dX5_mid_74 : decode cX5_mid 74 = .ok (.invokevirtual 277, 3) := by decide +kernel
theorem dX5_mid_77 : decode cX5_mid 77 = .ok (.iconst 1, 1) := by decide +kernel
theorem dX5_mid_78 : decode cX5_mid 78 = .ok (.ireturn, 1) := by decide +kernel
set_option maxRecDepth 20000 in
theorem ggX5_lots_X5_doByLot : GoodIn wsX5_lots wsX5_doByLot := goodIn_r _ [9, 10, 2, 11, 12, 13, 14, 15, 16, 17, 18, 19, 20, 21, 22, 23, 24, 25, 26, 27, 28, 29, 30, 31, 32, 33, 34, 8, 35, 36, 37, 38, 39, 40, 41, 42, 43, 44, 45, 46, 47, 48, 49, 50, 51, 52, 53, 54, 55, 56, 57, 58, 59, 60, 61, 62, 63, 64, 65, 66, 67, 68, 69, 70, 71, 72, 73, 74] (by decide +kernel) (by decide +kernel)
set_option maxRecDepth 20000 in
theorem gX5_lots_X5_doByLot : GoodIn wsX5_lots (wsV RX5 288 RX5 yX5_doByLot wsX5_doByLot) := goodIn_app (goodIn_of _ (by decide +kernel)) ggX5_lots_X5_doByLot
theorem dX5_lots_0 : decode cX5_lots 0 = .ok (.iload_n 1, 1) := by decide +kernel
theorem dX5_lots_1 : decode cX5_lots 1 = .ok (.iconst 1, 1) := by decide +kernel
theorem dX5_lots_2 : decode cX5_lots 2 = .ok (.if_icmp .lt 21, 3) := by decide +kernel
theorem dX5_lots_5 : decode cX5_lots 5 = .ok (.iload_n 1, 1) := by decide +kernel
theorem dX5_lots_6 : decode cX5_lots 6 = .ok (.bipush 20, 2) := by decide +kernel
theorem dX5_lots_8 : decode cX5_lots 8 = .ok (.if_icmp .gt 15, 3) := by decide +kernel
theorem dX5_lots_11 : decode cX5_lots 11 = .ok (.iload_n 2, 1) := by decide +kernel
theorem dX5_lots_12 : decode cX5_lots 12 = .ok (.iconst 1, 1) := by decide +kernel
theorem dX5_lots_13 : decode cX5_lots 13 = .ok (.if_icmp .lt 10, 3) := by decide +kernel
theorem dX5_lots_16 : decode cX5_lots 16 = .ok (.iload_n 2, 1) := by decide +kernel
theorem dX5_lots_17 : decode cX5_lots 17 = .ok (.ldc_w 283, 3) := by decide +kernel
theorem dX5_lots_20 : decode cX5_lots 20 = .ok (.if_icmp .lt 5, 3) := by decide +kernel
theorem dX5_lots_23 : decode cX5_lots 23 = .ok (.iconst (-1), 1) := by decide +kernel
theorem dX5_lots_24 : decode cX5_lots 24 = .ok (.ireturn, 1) := by decide +kernel
theorem dX5_lots_25 : decode cX5_lots 25 = .ok (.aload_n 0, 1) := by decide +kernel
theorem dX5_lots_26 : decode cX5_lots 26 = .ok (.getfield 33, 3) := by decide +kernel
theorem dX5_lots_29 : decode cX5_lots 29 = .ok (.getfield 126, 3) := by decide +kernel
theorem dX5_lots_32 : decode cX5_lots 32 = .ok (.ifCond .gt 6, 3) := by decide +kernel
theorem dX5_lots_35 : decode cX5_lots 35 = .ok (.bipush (-4), 2) := by decide +kernel
theorem dX5_lots_37 : decode cX5_lots 37 = .ok (.ireturn, 1) := by decide +kernel
theorem dX5_lots_38 : decode cX5_lots 38 = .ok (.aload_n 0, 1) := by decide +kernel
theorem dX5_lots_39 : decode cX5_lots 39 = .ok (.getfield 33, 3) := by decide +kernel
theorem dX5_lots_42 : decode cX5_lots 42 = .ok (.getfield 170, 3) := by decide +kernel
theorem dX5_lots_45 : decode cX5_lots 45 = .ok (.iload_n 1, 1) := by decide +kernel
theorem dX5_lots_46 : decode cX5_lots 46 = .ok (.iadd, 1) := by decide +kernel
theorem dX5_lots_47 : decode cX5_lots 47 = .ok (.bipush 40, 2) := by decide +kernel
theorem dX5_lots_49 : decode cX5_lots 49 = .ok (.if_icmp .le 6, 3) := by decide +kernel
theorem dX5_lots_52 : decode cX5_lots 52 = .ok (.bipush (-2), 2) := by decide +kernel
theorem dX5_lots_54 : decode cX5_lots 54 = .ok (.ireturn, 1) := by decide +kernel
theorem dX5_lots_55 : decode cX5_lots 55 = .ok (.iload_n 2, 1) := by decide +kernel
theorem dX5_lots_56 : decode cX5_lots 56 = .ok (.i2l, 1) := by decide +kernel
theorem dX5_lots_57 : decode cX5_lots 57 = .ok (.lstore_n 3, 1) := by decide +kernel
theorem dX5_lots_58 : decode cX5_lots 58 = .ok (.iconst 0, 1) := by decide +kernel
theorem dX5_lots_59 : decode cX5_lots 59 = .ok (.istore 5, 2) := by decide +kernel
theorem dX5_lots_61 : decode cX5_lots 61 = .ok (.iload 5, 2) := by decide +kernel
theorem dX5_lots_63 : decode cX5_lots 63 = .ok (.iload_n 1, 1) := by decide +kernel
theorem dX5_lots_64 : decode cX5_lots 64 = .ok (.if_icmp .ge 24, 3) := by decide +kernel
theorem dX5_lots_67 : decode cX5_lots 67 = .ok (.lload_n 3, 1) := by decide +kernel
theorem dX5_lots_68 : decode cX5_lots 68 = .ok (.ldc2_w 284, 3) := by decide +kernel
theorem dX5_lots_71 : decode cX5_lots 71 = .ok (.lmul, 1) := by decide +kernel
theorem dX5_lots_72 : decode cX5_lots 72 = .ok (.ldc2_w 286, 3) := by decide +kernel
theorem dX5_lots_75 : decode cX5_lots 75 = .ok (.lrem, 1) := by decide +kernel
theorem dX5_lots_76 : decode cX5_lots 76 = .ok (.lstore_n 3, 1) := by decide +kernel
theorem dX5_lots_77 : decode cX5_lots 77 = .ok (.aload_n 0, 1) := by decide +kernel
theorem dX5_lots_78 : decode cX5_lots 78 = .ok (.lload_n 3, 1) := by decide +kernel
theorem dX5_lots_79 : decode cX5_lots 79 = .ok (.invokevirtual 288, 3) := by decide +kernel
theorem dX5_lots_82 : decode cX5_lots 82 = .ok (.iinc 5 1, 3) := by decide +kernel
theorem dX5_lots_85 : decode cX5_lots 85 = .ok (.goto (-24), 3) := by decide +kernel
theorem dX5_lots_88 : decode cX5_lots 88 = .ok (.aload_n 0, 1) := by decide +kernel
theorem dX5_lots_89 : decode cX5_lots 89 = .ok (.getfield 33, 3) := by decide +kernel
theorem dX5_lots_92 : decode cX5_lots 92 = .ok (.getfield 148, 3) := by decide +kernel
theorem dX5_lots_95 : decode cX5_lots 95 = .ok (.ireturn, 1) := by decide +kernel
theorem dX5_asked_0 : decode cX5_asked 0 = .ok (.aload_n 0, 1) := by decide +kernel
theorem dX5_asked_1 : decode cX5_asked 1 = .ok (.getfield 71, 3) := by decide +kernel
theorem dX5_asked_4 : decode cX5_asked 4 = .ok (.ireturn, 1) := by decide +kernel
theorem dX5_upper_0 : decode cX5_upper 0 = .ok (.aload_n 0, 1) := by decide +kernel
theorem dX5_upper_1 : decode cX5_upper 1 = .ok (.getfield 292, 3) := by decide +kernel
theorem dX5_upper_4 : decode cX5_upper 4 = .ok (.lreturn, 1) := by decide +kernel
theorem dX5_lower_0 : decode cX5_lower 0 = .ok (.aload_n 0, 1) := by decide +kernel
theorem dX5_lower_1 : decode cX5_lower 1 = .ok (.getfield 55, 3) := by decide +kernel
theorem dX5_lower_4 : decode cX5_lower 4 = .ok (.lreturn, 1) := by decide +kernel
set_option maxRecDepth 20000 in
theorem ggX5_count_X5_sumOf : GoodIn wsX5_count wsX5_sumOf := goodIn_r _ [7, 8, 9, 6, 10] (by decide +kernel) (by decide +kernel)
set_option maxRecDepth 20000 in
theorem gX5_count_X5_sumOf : GoodIn wsX5_count (va_wsS RX5 295 yX5_sumOf wsX5_sumOf) := goodIn_app (goodIn_of _ (by decide +kernel)) ggX5_count_X5_sumOf
set_option maxRecDepth 20000 in
theorem ggX5_count_X0_lastHeight : GoodIn wsX5_count wsX0_lastHeight := goodIn_r _ [15, 16, 17, 9, 6, 10, 72, 73, 74, 75, 76, 77, 78, 79, 80, 81, 82, 83, 84, 85, 86] (by decide +kernel) (by decide +kernel)
set_option maxRecDepth 20000 in
theorem gX5_count_X0_lastHeight : GoodIn wsX5_count (wsV RX5 298 RX0 yX0_lastHeight wsX0_lastHeight) := goodIn_app (goodIn_of _ (by decide +kernel)) ggX5_count_X0_lastHeight
set_option maxRecDepth 20000 in
theorem ggX5_count_X0_howManyOf : GoodIn wsX5_count wsX0_howManyOf := goodIn_r _ [21, 22, 23, 9, 6, 10, 24, 25, 26, 27, 72, 73, 74, 75, 76, 77, 78, 79, 80, 81, 82, 83, 84, 85, 86] (by decide +kernel) (by decide +kernel)
set_option maxRecDepth 20000 in
theorem gX5_count_X0_howManyOf : GoodIn wsX5_count (wsV RX5 301 RX0 yX0_howManyOf wsX0_howManyOf) := goodIn_app (goodIn_of _ (by decide +kernel)) ggX5_count_X0_howManyOf
set_option maxRecDepth 20000 in
theorem ggX5_count_X4_howMany : GoodIn wsX5_count wsX4_howMany := goodIn_r _ [32, 33, 34, 35, 36, 31, 37, 38, 39, 40, 41, 42, 43, 44, 45, 46, 87, 88] (by decide +kernel) (by decide +kernel)
set_option maxRecDepth 20000 in
theorem gX5_count_X4_howMany : GoodIn wsX5_count (wsV RX5 304 RX4 yX4_howMany wsX4_howMany) := goodIn_app (goodIn_of _ (by decide +kernel)) ggX5_count_X4_howMany
set_option maxRecDepth 20000 in
theorem ggX5_count_X5_howManyKept : GoodIn wsX5_count wsX5_howManyKept := goodIn_r _ [50, 51, 52, 53, 54, 6, 55, 56, 57, 58, 59, 60, 61, 62, 63, 64, 65, 66, 67, 68, 69, 70, 71, 72, 73, 74, 75, 76, 77, 78, 79, 80, 81, 82, 83, 84, 85, 86] (by decide +kernel) (by decide +kernel)
set_option maxRecDepth 20000 in
theorem gX5_count_X5_howManyKept : GoodIn wsX5_count (wsV RX5 307 RX5 yX5_howManyKept wsX5_howManyKept) := goodIn_app (goodIn_of _ (by decide +kernel)) ggX5_count_X5_howManyKept
theorem dX5_count_0 : decode cX5_count 0 = .ok (.iload_n 1, 1) := by decide +kernel
theorem dX5_count_1 : decode cX5_count 1 = .ok (.tableswitch 160 0 10 #[59, 67, 75, 83, 91, 104, 122, 130, 139, 147, 155], 59) := by decide +kernel
theorem dX5_count_60 : decode cX5_count 60 = .ok (.aload_n 0, 1) := by decide +kernel
theorem dX5_count_61 : decode cX5_count 61 = .ok (.getfield 33, 3) := by decide +kernel
theorem dX5_count_64 : decode cX5_count 64 = .ok (.getfield 126, 3) := by decide +kernel
theorem dX5_count_67 : decode cX5_count 67 = .ok (.ireturn, 1) := by decide +kernel
theorem dX5_count_68 : decode cX5_count 68 = .ok (.aload_n 0, 1) := by decide +kernel
theorem dX5_count_69 : decode cX5_count 69 = .ok (.getfield 33, 3) := by decide +kernel
theorem dX5_count_72 : decode cX5_count 72 = .ok (.getfield 148, 3) := by decide +kernel
theorem dX5_count_75 : decode cX5_count 75 = .ok (.ireturn, 1) := by decide +kernel
theorem dX5_count_76 : decode cX5_count 76 = .ok (.aload_n 0, 1) := by decide +kernel
theorem dX5_count_77 : decode cX5_count 77 = .ok (.getfield 33, 3) := by decide +kernel
theorem dX5_count_80 : decode cX5_count 80 = .ok (.getfield 170, 3) := by decide +kernel
theorem dX5_count_83 : decode cX5_count 83 = .ok (.ireturn, 1) := by decide +kernel
theorem dX5_count_84 : decode cX5_count 84 = .ok (.aload_n 0, 1) := by decide +kernel
theorem dX5_count_85 : decode cX5_count 85 = .ok (.getfield 33, 3) := by decide +kernel
theorem dX5_count_88 : decode cX5_count 88 = .ok (.getfield 192, 3) := by decide +kernel
theorem dX5_count_91 : decode cX5_count 91 = .ok (.ireturn, 1) := by decide +kernel
theorem dX5_count_92 : decode cX5_count 92 = .ok (.aload_n 0, 1) := by decide +kernel
theorem dX5_count_93 : decode cX5_count 93 = .ok (.getfield 33, 3) := by decide +kernel
theorem dX5_count_96 : decode cX5_count 96 = .ok (.getfield 189, 3) := by decide +kernel
theorem dX5_count_99 : decode cX5_count 99 = .ok (.bipush 6, 2) := by decide +kernel
theorem dX5_count_101 : decode cX5_count 101 = .ok (.invokestatic 295, 3) := by decide +kernel
theorem dX5_count_104 : decode cX5_count 104 = .ok (.ireturn, 1) := by decide +kernel
theorem dX5_count_105 : decode cX5_count 105 = .ok (.aload_n 0, 1) := by decide +kernel
theorem dX5_count_106 : decode cX5_count 106 = .ok (.getfield 33, 3) := by decide +kernel
theorem dX5_count_109 : decode cX5_count 109 = .ok (.getfield 198, 3) := by decide +kernel
theorem dX5_count_112 : decode cX5_count 112 = .ok (.aload_n 0, 1) := by decide +kernel
theorem dX5_count_113 : decode cX5_count 113 = .ok (.getfield 33, 3) := by decide +kernel
theorem dX5_count_116 : decode cX5_count 116 = .ok (.getfield 126, 3) := by decide +kernel
theorem dX5_count_119 : decode cX5_count 119 = .ok (.invokestatic 295, 3) := by decide +kernel
theorem dX5_count_122 : decode cX5_count 122 = .ok (.ireturn, 1) := by decide +kernel
theorem dX5_count_123 : decode cX5_count 123 = .ok (.aload_n 0, 1) := by decide +kernel
theorem dX5_count_124 : decode cX5_count 124 = .ok (.getfield 33, 3) := by decide +kernel
theorem dX5_count_127 : decode cX5_count 127 = .ok (.invokevirtual 298, 3) := by decide +kernel
theorem dX5_count_130 : decode cX5_count 130 = .ok (.ireturn, 1) := by decide +kernel
theorem dX5_count_131 : decode cX5_count 131 = .ok (.aload_n 0, 1) := by decide +kernel
theorem dX5_count_132 : decode cX5_count 132 = .ok (.getfield 33, 3) := by decide +kernel
theorem dX5_count_135 : decode cX5_count 135 = .ok (.iconst 1, 1) := by decide +kernel
theorem dX5_count_136 : decode cX5_count 136 = .ok (.invokevirtual 301, 3) := by decide +kernel
theorem dX5_count_139 : decode cX5_count 139 = .ok (.ireturn, 1) := by decide +kernel
theorem dX5_count_140 : decode cX5_count 140 = .ok (.aload_n 0, 1) := by decide +kernel
theorem dX5_count_141 : decode cX5_count 141 = .ok (.getfield 16, 3) := by decide +kernel
theorem dX5_count_144 : decode cX5_count 144 = .ok (.invokevirtual 304, 3) := by decide +kernel
theorem dX5_count_147 : decode cX5_count 147 = .ok (.ireturn, 1) := by decide +kernel
theorem dX5_count_148 : decode cX5_count 148 = .ok (.aload_n 0, 1) := by decide +kernel
theorem dX5_count_149 : decode cX5_count 149 = .ok (.getfield 20, 3) := by decide +kernel
theorem dX5_count_152 : decode cX5_count 152 = .ok (.invokevirtual 304, 3) := by decide +kernel
theorem dX5_count_155 : decode cX5_count 155 = .ok (.ireturn, 1) := by decide +kernel
theorem dX5_count_156 : decode cX5_count 156 = .ok (.aload_n 0, 1) := by decide +kernel
theorem dX5_count_157 : decode cX5_count 157 = .ok (.invokevirtual 307, 3) := by decide +kernel
theorem dX5_count_160 : decode cX5_count 160 = .ok (.ireturn, 1) := by decide +kernel
theorem dX5_count_161 : decode cX5_count 161 = .ok (.iconst (-1), 1) := by decide +kernel
theorem dX5_count_162 : decode cX5_count 162 = .ok (.ireturn, 1) := by decide +kernel
theorem dX5_finding_0 : decode cX5_finding 0 = .ok (.aload_n 0, 1) := by decide +kernel
theorem dX5_finding_1 : decode cX5_finding 1 = .ok (.getfield 310, 3) := by decide +kernel
theorem dX5_finding_4 : decode cX5_finding 4 = .ok (.ireturn, 1) := by decide +kernel
set_option maxRecDepth 20000 in
theorem ggX5_findings_X5_item : GoodIn wsX5_findings wsX5_item := goodIn_r _ [5] (by decide +kernel) (by decide +kernel)
set_option maxRecDepth 20000 in
theorem gX5_findings_X5_item : GoodIn wsX5_findings (va_wsS RX5 138 yX5_item wsX5_item) := goodIn_app (goodIn_of _ (by decide +kernel)) ggX5_findings_X5_item
theorem dX5_findings_0 : decode cX5_findings 0 = .ok (.iload_n 1, 1) := by decide +kernel
theorem dX5_findings_1 : decode cX5_findings 1 = .ok (.iconst 1, 1) := by decide +kernel
theorem dX5_findings_2 : decode cX5_findings 2 = .ok (.if_icmp .lt 19, 3) := by decide +kernel
theorem dX5_findings_5 : decode cX5_findings 5 = .ok (.iload_n 1, 1) := by decide +kernel
theorem dX5_findings_6 : decode cX5_findings 6 = .ok (.iconst 5, 1) := by decide +kernel
theorem dX5_findings_7 : decode cX5_findings 7 = .ok (.if_icmp .gt 14, 3) := by decide +kernel
theorem dX5_findings_10 : decode cX5_findings 10 = .ok (.aload_n 0, 1) := by decide +kernel
theorem dX5_findings_11 : decode cX5_findings 11 = .ok (.getfield 52, 3) := by decide +kernel
theorem dX5_findings_14 : decode cX5_findings 14 = .ok (.iload_n 1, 1) := by decide +kernel
theorem dX5_findings_15 : decode cX5_findings 15 = .ok (.invokestatic 138, 3) := by decide +kernel
theorem dX5_findings_18 : decode cX5_findings 18 = .ok (.goto 4, 3) := by decide +kernel
theorem dX5_findings_21 : decode cX5_findings 21 = .ok (.iconst (-1), 1) := by decide +kernel
theorem dX5_findings_22 : decode cX5_findings 22 = .ok (.ireturn, 1) := by decide +kernel
set_option maxRecDepth 20000 in
theorem ggX5_digest_X5_count : GoodIn wsX5_digest wsX5_count := goodIn_r _ [10, 2, 4, 5, 11, 12, 9, 13, 14, 15, 16, 17, 18, 19, 20, 21, 22, 23, 24, 25, 26, 27, 28, 29, 30, 31, 32, 33, 34, 35, 36, 37, 38, 39, 40, 41, 42, 43, 44, 45, 46, 47, 48, 49, 50, 51, 52, 53, 54, 55, 56, 3, 57, 58, 59, 60, 61, 62, 63, 64, 120, 121, 122, 123, 124, 125, 126, 127, 128, 129, 130, 131, 132, 133, 134, 135, 136, 137, 138, 139, 140, 141, 142, 143, 144, 145, 146, 147, 148] (by decide +kernel) (by decide +kernel)
set_option maxRecDepth 20000 in
theorem gX5_digest_X5_count : GoodIn wsX5_digest (wsV RX5 315 RX5 yX5_count wsX5_count) := goodIn_app (goodIn_of _ (by decide +kernel)) ggX5_digest_X5_count
set_option maxRecDepth 20000 in
theorem ggX5_digest_X5_mixed : GoodIn wsX5_digest wsX5_mixed := goodIn_r _ [67, 68] (by decide +kernel) (by decide +kernel)
set_option maxRecDepth 20000 in
theorem gX5_digest_X5_mixed : GoodIn wsX5_digest (va_wsS RX5 318 yX5_mixed wsX5_mixed) := goodIn_app (goodIn_of _ (by decide +kernel)) ggX5_digest_X5_mixed
set_option maxRecDepth 20000 in
theorem ggX5_digest_X5_item : GoodIn wsX5_digest wsX5_item := goodIn_r _ [16] (by decide +kernel) (by decide +kernel)
set_option maxRecDepth 20000 in
theorem gX5_digest_X5_item : GoodIn wsX5_digest (va_wsS RX5 138 yX5_item wsX5_item) := goodIn_app (goodIn_of _ (by decide +kernel)) ggX5_digest_X5_item
set_option maxRecDepth 20000 in
theorem ggX5_digest_X5_mixedWoman : GoodIn wsX5_digest wsX5_mixedWoman := goodIn_r _ [72, 2, 73, 74, 75, 9, 76, 14, 15, 16, 77, 78, 79, 20, 80, 22, 81, 82, 83, 84, 85, 86, 87, 88, 23, 29, 89, 90, 91, 92, 93, 94, 95, 96, 97, 32, 98, 99, 100, 101, 102, 65, 66, 67, 68, 103, 120, 121, 122, 123, 124, 125, 126, 127, 128, 129, 130, 131, 132, 133, 134, 135, 136, 137, 138, 139, 140, 141, 142, 143, 144, 145, 146] (by decide +kernel) (by decide +kernel)
set_option maxRecDepth 20000 in
theorem gX5_digest_X5_mixedWoman : GoodIn wsX5_digest (wsV RX5 322 RX5 yX5_mixedWoman wsX5_mixedWoman) := goodIn_app (goodIn_of _ (by decide +kernel)) ggX5_digest_X5_mixedWoman
set_option maxRecDepth 20000 in
theorem ggX5_digest_X5_deedsKept : GoodIn wsX5_digest wsX5_deedsKept := goodIn_r _ [60, 61, 62, 63, 9, 64, 3, 132, 133, 134, 135, 136, 137, 138, 139, 140, 141, 142, 143, 144, 145, 146, 120, 121, 122, 123, 124, 125, 126, 127, 128, 129, 130, 131] (by decide +kernel) (by decide +kernel)
set_option maxRecDepth 20000 in
theorem gX5_digest_X5_deedsKept : GoodIn wsX5_digest (wsV RX5 325 RX5 yX5_deedsKept wsX5_deedsKept) := goodIn_app (goodIn_of _ (by decide +kernel)) ggX5_digest_X5_deedsKept
set_option maxRecDepth 20000 in
theorem ggX5_digest_X5_mixedShelf : GoodIn wsX5_digest wsX5_mixedShelf := goodIn_r _ [106, 107, 45, 46, 37, 47, 39, 48, 49, 50, 51, 52, 65, 66, 9, 67, 68, 108, 109, 110, 111, 112, 113, 114, 115, 44, 116, 117, 118, 119, 15, 16, 147, 148] (by decide +kernel) (by decide +kernel)
set_option maxRecDepth 20000 in
theorem gX5_digest_X5_mixedShelf : GoodIn wsX5_digest (va_wsS RX5 328 yX5_mixedShelf wsX5_mixedShelf) := goodIn_app (goodIn_of _ (by decide +kernel)) ggX5_digest_X5_mixedShelf
theorem dX5_digest_0 : decode cX5_digest 0 = .ok (.ldc2_w 313, 3) := by decide +kernel
theorem dX5_digest_3 : decode cX5_digest 3 = .ok (.lstore_n 1, 1) := by decide +kernel
theorem dX5_digest_4 : decode cX5_digest 4 = .ok (.iconst 0, 1) := by decide +kernel
theorem dX5_digest_5 : decode cX5_digest 5 = .ok (.istore_n 3, 1) := by decide +kernel
theorem dX5_digest_6 : decode cX5_digest 6 = .ok (.iload_n 3, 1) := by decide +kernel
theorem dX5_digest_7 : decode cX5_digest 7 = .ok (.bipush 11, 2) := by decide +kernel
theorem dX5_digest_9 : decode cX5_digest 9 = .ok (.if_icmp .ge 19, 3) := by decide +kernel
theorem dX5_digest_12 : decode cX5_digest 12 = .ok (.lload_n 1, 1) := by decide +kernel
theorem dX5_digest_13 : decode cX5_digest 13 = .ok (.aload_n 0, 1) := by decide +kernel
theorem dX5_digest_14 : decode cX5_digest 14 = .ok (.iload_n 3, 1) := by decide +kernel
theorem dX5_digest_15 : decode cX5_digest 15 = .ok (.invokevirtual 315, 3) := by decide +kernel
theorem dX5_digest_18 : decode cX5_digest 18 = .ok (.invokestatic 318, 3) := by decide +kernel
theorem dX5_digest_21 : decode cX5_digest 21 = .ok (.lstore_n 1, 1) := by decide +kernel
theorem dX5_digest_22 : decode cX5_digest 22 = .ok (.iinc 3 1, 3) := by decide +kernel
theorem dX5_digest_25 : decode cX5_digest 25 = .ok (.goto (-19), 3) := by decide +kernel
theorem dX5_digest_28 : decode cX5_digest 28 = .ok (.iconst 0, 1) := by decide +kernel
theorem dX5_digest_29 : decode cX5_digest 29 = .ok (.istore_n 3, 1) := by decide +kernel
theorem dX5_digest_30 : decode cX5_digest 30 = .ok (.iload_n 3, 1) := by decide +kernel
theorem dX5_digest_31 : decode cX5_digest 31 = .ok (.bipush 6, 2) := by decide +kernel
theorem dX5_digest_33 : decode cX5_digest 33 = .ok (.if_icmp .ge 25, 3) := by decide +kernel
theorem dX5_digest_36 : decode cX5_digest 36 = .ok (.lload_n 1, 1) := by decide +kernel
theorem dX5_digest_37 : decode cX5_digest 37 = .ok (.aload_n 0, 1) := by decide +kernel
theorem dX5_digest_38 : decode cX5_digest 38 = .ok (.getfield 33, 3) := by decide +kernel
theorem dX5_digest_41 : decode cX5_digest 41 = .ok (.getfield 189, 3) := by decide +kernel
theorem dX5_digest_44 : decode cX5_digest 44 = .ok (.iload_n 3, 1) := by decide +kernel
theorem dX5_digest_45 : decode cX5_digest 45 = .ok (.invokestatic 138, 3) := by decide +kernel
theorem dX5_digest_48 : decode cX5_digest 48 = .ok (.invokestatic 318, 3) := by decide +kernel
theorem dX5_digest_51 : decode cX5_digest 51 = .ok (.lstore_n 1, 1) := by decide +kernel
theorem dX5_digest_52 : decode cX5_digest 52 = .ok (.iinc 3 1, 3) := by decide +kernel
theorem dX5_digest_55 : decode cX5_digest 55 = .ok (.goto (-25), 3) := by decide +kernel
theorem dX5_digest_58 : decode cX5_digest 58 = .ok (.iconst 0, 1) := by decide +kernel
theorem dX5_digest_59 : decode cX5_digest 59 = .ok (.istore_n 3, 1) := by decide +kernel
theorem dX5_digest_60 : decode cX5_digest 60 = .ok (.iload_n 3, 1) := by decide +kernel
theorem dX5_digest_61 : decode cX5_digest 61 = .ok (.aload_n 0, 1) := by decide +kernel
theorem dX5_digest_62 : decode cX5_digest 62 = .ok (.getfield 33, 3) := by decide +kernel
theorem dX5_digest_65 : decode cX5_digest 65 = .ok (.getfield 126, 3) := by decide +kernel
theorem dX5_digest_68 : decode cX5_digest 68 = .ok (.if_icmp .ge 16, 3) := by decide +kernel
theorem dX5_digest_71 : decode cX5_digest 71 = .ok (.aload_n 0, 1) := by decide +kernel
theorem dX5_digest_72 : decode cX5_digest 72 = .ok (.lload_n 1, 1) := by decide +kernel
theorem dX5_digest_73 : decode cX5_digest 73 = .ok (.iload_n 3, 1) := by decide +kernel
theorem dX5_digest_74 : decode cX5_digest 74 = .ok (.invokevirtual 322, 3) := by decide +kernel
theorem dX5_digest_77 : decode cX5_digest 77 = .ok (.lstore_n 1, 1) := by decide +kernel
theorem dX5_digest_78 : decode cX5_digest 78 = .ok (.iinc 3 1, 3) := by decide +kernel
theorem dX5_digest_81 : decode cX5_digest 81 = .ok (.goto (-21), 3) := by decide +kernel
theorem dX5_digest_84 : decode cX5_digest 84 = .ok (.iconst 0, 1) := by decide +kernel
theorem dX5_digest_85 : decode cX5_digest 85 = .ok (.istore_n 3, 1) := by decide +kernel
theorem dX5_digest_86 : decode cX5_digest 86 = .ok (.iload_n 3, 1) := by decide +kernel
theorem dX5_digest_87 : decode cX5_digest 87 = .ok (.aload_n 0, 1) := by decide +kernel
theorem dX5_digest_88 : decode cX5_digest 88 = .ok (.getfield 37, 3) := by decide +kernel
theorem dX5_digest_91 : decode cX5_digest 91 = .ok (.arraylength, 1) := by decide +kernel
theorem dX5_digest_92 : decode cX5_digest 92 = .ok (.if_icmp .ge 19, 3) := by decide +kernel
theorem dX5_digest_95 : decode cX5_digest 95 = .ok (.lload_n 1, 1) := by decide +kernel
theorem dX5_digest_96 : decode cX5_digest 96 = .ok (.aload_n 0, 1) := by decide +kernel
theorem dX5_digest_97 : decode cX5_digest 97 = .ok (.iload_n 3, 1) := by decide +kernel
theorem dX5_digest_98 : decode cX5_digest 98 = .ok (.invokevirtual 325, 3) := by decide +kernel
theorem dX5_digest_101 : decode cX5_digest 101 = .ok (.invokestatic 318, 3) := by decide +kernel
theorem dX5_digest_104 : decode cX5_digest 104 = .ok (.lstore_n 1, 1) := by decide +kernel
theorem dX5_digest_105 : decode cX5_digest 105 = .ok (.iinc 3 1, 3) := by decide +kernel
theorem dX5_digest_108 : decode cX5_digest 108 = .ok (.goto (-22), 3) := by decide +kernel
theorem dX5_digest_111 : decode cX5_digest 111 = .ok (.lload_n 1, 1) := by decide +kernel
theorem dX5_digest_112 : decode cX5_digest 112 = .ok (.aload_n 0, 1) := by decide +kernel
theorem dX5_digest_113 : decode cX5_digest 113 = .ok (.getfield 16, 3) := by decide +kernel
theorem dX5_digest_116 : decode cX5_digest 116 = .ok (.invokestatic 328, 3) := by decide +kernel
theorem dX5_digest_119 : decode cX5_digest 119 = .ok (.aload_n 0, 1) := by decide +kernel
theorem dX5_digest_120 : decode cX5_digest 120 = .ok (.getfield 20, 3) := by decide +kernel
theorem dX5_digest_123 : decode cX5_digest 123 = .ok (.invokestatic 328, 3) := by decide +kernel
theorem dX5_digest_126 : decode cX5_digest 126 = .ok (.lreturn, 1) := by decide +kernel
set_option maxRecDepth 20000 in
theorem ggX5_found_X5_item : GoodIn wsX5_found wsX5_item := goodIn_r _ [6] (by decide +kernel) (by decide +kernel)
set_option maxRecDepth 20000 in
theorem gX5_found_X5_item : GoodIn wsX5_found (va_wsS RX5 138 yX5_item wsX5_item) := goodIn_app (goodIn_of _ (by decide +kernel)) ggX5_found_X5_item
set_option maxRecDepth 20000 in
theorem ggX5_found_X5_setItem : GoodIn wsX5_found wsX5_setItem := goodIn_r _ [9] (by decide +kernel) (by decide +kernel)
set_option maxRecDepth 20000 in
theorem gX5_found_X5_setItem : GoodIn wsX5_found (va_wsS RX5 332 yX5_setItem wsX5_setItem) := goodIn_app (goodIn_of _ (by decide +kernel)) ggX5_found_X5_setItem
theorem dX5_found_0 : decode cX5_found 0 = .ok (.aload_n 0, 1) := by decide +kernel
theorem dX5_found_1 : decode cX5_found 1 = .ok (.iload_n 1, 1) := by decide +kernel
theorem dX5_found_2 : decode cX5_found 2 = .ok (.putfield 310, 3) := by decide +kernel
theorem dX5_found_5 : decode cX5_found 5 = .ok (.aload_n 0, 1) := by decide +kernel
theorem dX5_found_6 : decode cX5_found 6 = .ok (.getfield 52, 3) := by decide +kernel
theorem dX5_found_9 : decode cX5_found 9 = .ok (.iload_n 1, 1) := by decide +kernel
theorem dX5_found_10 : decode cX5_found 10 = .ok (.aload_n 0, 1) := by decide +kernel
theorem dX5_found_11 : decode cX5_found 11 = .ok (.getfield 52, 3) := by decide +kernel
theorem dX5_found_14 : decode cX5_found 14 = .ok (.iload_n 1, 1) := by decide +kernel
theorem dX5_found_15 : decode cX5_found 15 = .ok (.invokestatic 138, 3) := by decide +kernel
theorem dX5_found_18 : decode cX5_found 18 = .ok (.iconst 1, 1) := by decide +kernel
theorem dX5_found_19 : decode cX5_found 19 = .ok (.iadd, 1) := by decide +kernel
theorem dX5_found_20 : decode cX5_found 20 = .ok (.invokestatic 332, 3) := by decide +kernel
theorem dX5_found_23 : decode cX5_found 23 = .ok (.bipush (-3), 2) := by decide +kernel
theorem dX5_found_25 : decode cX5_found 25 = .ok (.ireturn, 1) := by decide +kernel
set_option maxRecDepth 20000 in
theorem ggX5_refusalOfItem_X4_isNumber : GoodIn wsX5_refusalOfItem wsX4_isNumber := goodIn_r _ [5, 6, 7, 30, 31] (by decide +kernel) (by decide +kernel)
set_option maxRecDepth 20000 in
theorem gX5_refusalOfItem_X4_isNumber : GoodIn wsX5_refusalOfItem (wsV RX5 87 RX4 yX4_isNumber wsX4_isNumber) := goodIn_app (goodIn_of _ (by decide +kernel)) ggX5_refusalOfItem_X4_isNumber
set_option maxRecDepth 20000 in
theorem ggX5_refusalOfItem_X4_isThere : GoodIn wsX5_refusalOfItem wsX4_isThere := goodIn_r _ [11, 12, 13, 14, 4, 15, 6, 16, 2, 3, 5, 7, 30, 31] (by decide +kernel) (by decide +kernel)
set_option maxRecDepth 20000 in
theorem gX5_refusalOfItem_X4_isThere : GoodIn wsX5_refusalOfItem (wsV RX5 95 RX4 yX4_isThere wsX4_isThere) := goodIn_app (goodIn_of _ (by decide +kernel)) ggX5_refusalOfItem_X4_isThere
set_option maxRecDepth 20000 in
theorem ggX5_refusalOfItem_X5_found : GoodIn wsX5_refusalOfItem wsX5_found := goodIn_r _ [21, 22, 23, 24, 25, 20, 26, 27, 28, 29, 32, 33, 34, 35, 36, 37, 38, 39, 40, 41, 42, 43] (by decide +kernel) (by decide +kernel)
set_option maxRecDepth 20000 in
theorem gX5_refusalOfItem_X5_found : GoodIn wsX5_refusalOfItem (wsV RX5 91 RX5 yX5_found wsX5_found) := goodIn_app (goodIn_of _ (by decide +kernel)) ggX5_refusalOfItem_X5_found
theorem dX5_refusalOfItem_0 : decode cX5_refusalOfItem 0 = .ok (.aload_n 1, 1) := by decide +kernel
theorem dX5_refusalOfItem_1 : decode cX5_refusalOfItem 1 = .ok (.iload_n 2, 1) := by decide +kernel
theorem dX5_refusalOfItem_2 : decode cX5_refusalOfItem 2 = .ok (.invokevirtual 87, 3) := by decide +kernel
theorem dX5_refusalOfItem_5 : decode cX5_refusalOfItem 5 = .ok (.ifCond .ne 5, 3) := by decide +kernel
theorem dX5_refusalOfItem_8 : decode cX5_refusalOfItem 8 = .ok (.iconst (-1), 1) := by decide +kernel
theorem dX5_refusalOfItem_9 : decode cX5_refusalOfItem 9 = .ok (.ireturn, 1) := by decide +kernel
theorem dX5_refusalOfItem_10 : decode cX5_refusalOfItem 10 = .ok (.aload_n 1, 1) := by decide +kernel
theorem dX5_refusalOfItem_11 : decode cX5_refusalOfItem 11 = .ok (.iload_n 2, 1) := by decide +kernel
theorem dX5_refusalOfItem_12 : decode cX5_refusalOfItem 12 = .ok (.invokevirtual 95, 3) := by decide +kernel
theorem dX5_refusalOfItem_15 : decode cX5_refusalOfItem 15 = .ok (.ifCond .eq 7, 3) := by decide +kernel
theorem dX5_refusalOfItem_18 : decode cX5_refusalOfItem 18 = .ok (.iconst 0, 1) := by decide +kernel
theorem dX5_refusalOfItem_19 : decode cX5_refusalOfItem 19 = .ok (.goto 8, 3) := by decide +kernel
theorem dX5_refusalOfItem_22 : decode cX5_refusalOfItem 22 = .ok (.aload_n 0, 1) := by decide +kernel
theorem dX5_refusalOfItem_23 : decode cX5_refusalOfItem 23 = .ok (.iconst 1, 1) := by decide +kernel
theorem dX5_refusalOfItem_24 : decode cX5_refusalOfItem 24 = .ok (.invokevirtual 91, 3) := by decide +kernel
theorem dX5_refusalOfItem_27 : decode cX5_refusalOfItem 27 = .ok (.ireturn, 1) := by decide +kernel
set_option maxRecDepth 20000 in
theorem ggX5_refusalOfCell_X5_refusalOfItem : GoodIn wsX5_refusalOfCell wsX5_refusalOfItem := goodIn_r _ [5, 6, 7, 8, 9, 10, 11, 12, 13, 14, 15, 16, 17, 18, 19, 20, 21, 22, 23, 24, 4, 25, 26, 27, 28, 29, 30, 31, 32, 33, 38, 39, 40, 41, 42, 43, 44, 45, 46, 47, 48, 49, 50, 51] (by decide +kernel) (by decide +kernel)
set_option maxRecDepth 20000 in
theorem gX5_refusalOfCell_X5_refusalOfItem : GoodIn wsX5_refusalOfCell (wsV RX5 79 RX5 yX5_refusalOfItem wsX5_refusalOfItem) := goodIn_app (goodIn_of _ (by decide +kernel)) ggX5_refusalOfCell_X5_refusalOfItem
set_option maxRecDepth 20000 in
theorem ggX5_refusalOfCell_X4_isCell : GoodIn wsX5_refusalOfCell wsX4_isCell := goodIn_r _ [37, 17, 18, 19, 9, 20, 11, 21, 7, 8, 10, 12, 38, 39] (by decide +kernel) (by decide +kernel)
set_option maxRecDepth 20000 in
theorem gX5_refusalOfCell_X4_isCell : GoodIn wsX5_refusalOfCell (wsV RX5 336 RX4 yX4_isCell wsX4_isCell) := goodIn_app (goodIn_of _ (by decide +kernel)) ggX5_refusalOfCell_X4_isCell
set_option maxRecDepth 20000 in
theorem ggX5_refusalOfCell_X5_found : GoodIn wsX5_refusalOfCell wsX5_found := goodIn_r _ [25, 26, 27, 28, 29, 4, 30, 31, 32, 33, 40, 41, 42, 43, 44, 45, 46, 47, 48, 49, 50, 51] (by decide +kernel) (by decide +kernel)
set_option maxRecDepth 20000 in
theorem gX5_refusalOfCell_X5_found : GoodIn wsX5_refusalOfCell (wsV RX5 91 RX5 yX5_found wsX5_found) := goodIn_app (goodIn_of _ (by decide +kernel)) ggX5_refusalOfCell_X5_found
theorem dX5_refusalOfCell_0 : decode cX5_refusalOfCell 0 = .ok (.aload_n 0, 1) := by decide +kernel
theorem dX5_refusalOfCell_1 : decode cX5_refusalOfCell 1 = .ok (.aload_n 1, 1) := by decide +kernel
theorem dX5_refusalOfCell_2 : decode cX5_refusalOfCell 2 = .ok (.iload_n 2, 1) := by decide +kernel
theorem dX5_refusalOfCell_3 : decode cX5_refusalOfCell 3 = .ok (.invokevirtual 79, 3) := by decide +kernel
theorem dX5_refusalOfCell_6 : decode cX5_refusalOfCell 6 = .ok (.istore 4, 2) := by decide +kernel
theorem dX5_refusalOfCell_8 : decode cX5_refusalOfCell 8 = .ok (.iload 4, 2) := by decide +kernel
theorem dX5_refusalOfCell_10 : decode cX5_refusalOfCell 10 = .ok (.ifCond .eq 6, 3) := by decide +kernel
theorem dX5_refusalOfCell_13 : decode cX5_refusalOfCell 13 = .ok (.iload 4, 2) := by decide +kernel
theorem dX5_refusalOfCell_15 : decode cX5_refusalOfCell 15 = .ok (.ireturn, 1) := by decide +kernel
theorem dX5_refusalOfCell_16 : decode cX5_refusalOfCell 16 = .ok (.aload_n 1, 1) := by decide +kernel
theorem dX5_refusalOfCell_17 : decode cX5_refusalOfCell 17 = .ok (.iload_n 2, 1) := by decide +kernel
theorem dX5_refusalOfCell_18 : decode cX5_refusalOfCell 18 = .ok (.iload_n 3, 1) := by decide +kernel
theorem dX5_refusalOfCell_19 : decode cX5_refusalOfCell 19 = .ok (.invokevirtual 336, 3) := by decide +kernel
theorem dX5_refusalOfCell_22 : decode cX5_refusalOfCell 22 = .ok (.ifCond .eq 7, 3) := by decide +kernel
theorem dX5_refusalOfCell_25 : decode cX5_refusalOfCell 25 = .ok (.iconst 0, 1) := by decide +kernel
theorem dX5_refusalOfCell_26 : decode cX5_refusalOfCell 26 = .ok (.goto 8, 3) := by decide +kernel
theorem dX5_refusalOfCell_29 : decode cX5_refusalOfCell 29 = .ok (.aload_n 0, 1) := by decide +kernel
theorem dX5_refusalOfCell_30 : decode cX5_refusalOfCell 30 = .ok (.iconst 2, 1) := by decide +kernel
theorem dX5_refusalOfCell_31 : decode cX5_refusalOfCell 31 = .ok (.invokevirtual 91, 3) := by decide +kernel
theorem dX5_refusalOfCell_34 : decode cX5_refusalOfCell 34 = .ok (.ireturn, 1) := by decide +kernel
set_option maxRecDepth 20000 in
theorem ggX5_refusalOfPairs_X5_isWoman : GoodIn wsX5_refusalOfPairs wsX5_isWoman := goodIn_r _ [6, 7, 56, 57, 58, 59, 60, 61, 62, 63, 64, 65, 66, 67, 68, 69, 70, 71, 72, 73, 74, 75, 76, 77, 78, 79, 80, 81, 82] (by decide +kernel) (by decide +kernel)
set_option maxRecDepth 20000 in
theorem gX5_refusalOfPairs_X5_isWoman : GoodIn wsX5_refusalOfPairs (wsV RX5 129 RX5 yX5_isWoman wsX5_isWoman) := goodIn_app (goodIn_of _ (by decide +kernel)) ggX5_refusalOfPairs_X5_isWoman
set_option maxRecDepth 20000 in
theorem ggX5_refusalOfPairs_X5_refusalOfItem : GoodIn wsX5_refusalOfPairs wsX5_refusalOfItem := goodIn_r _ [11, 12, 13, 14, 15, 16, 17, 18, 19, 20, 21, 22, 23, 24, 25, 26, 27, 28, 29, 30, 5, 31, 32, 33, 34, 35, 36, 37, 38, 39, 83, 84, 56, 57, 58, 59, 60, 61, 62, 63, 64, 65, 66, 67] (by decide +kernel) (by decide +kernel)
set_option maxRecDepth 20000 in
theorem gX5_refusalOfPairs_X5_refusalOfItem : GoodIn wsX5_refusalOfPairs (wsV RX5 79 RX5 yX5_refusalOfItem wsX5_refusalOfItem) := goodIn_app (goodIn_of _ (by decide +kernel)) ggX5_refusalOfPairs_X5_refusalOfItem
set_option maxRecDepth 20000 in
theorem ggX5_refusalOfPairs_X4_sizeOf : GoodIn wsX5_refusalOfPairs wsX4_sizeOf := goodIn_r _ [26, 17, 27, 13, 14, 15, 16, 18, 83, 84] (by decide +kernel) (by decide +kernel)
set_option maxRecDepth 20000 in
theorem gX5_refusalOfPairs_X4_sizeOf : GoodIn wsX5_refusalOfPairs (wsV RX5 106 RX4 yX4_sizeOf wsX4_sizeOf) := goodIn_app (goodIn_of _ (by decide +kernel)) ggX5_refusalOfPairs_X4_sizeOf
set_option maxRecDepth 20000 in
theorem ggX5_refusalOfPairs_X5_found : GoodIn wsX5_refusalOfPairs wsX5_found := goodIn_r _ [31, 32, 33, 34, 35, 5, 36, 37, 38, 39, 56, 57, 58, 59, 60, 61, 62, 63, 64, 65, 66, 67] (by decide +kernel) (by decide +kernel)
set_option maxRecDepth 20000 in
theorem gX5_refusalOfPairs_X5_found : GoodIn wsX5_refusalOfPairs (wsV RX5 91 RX5 yX5_found wsX5_found) := goodIn_app (goodIn_of _ (by decide +kernel)) ggX5_refusalOfPairs_X5_found
set_option maxRecDepth 20000 in
theorem ggX5_refusalOfPairs_X4_cell : GoodIn wsX5_refusalOfPairs wsX4_cell := goodIn_r _ [44, 45, 46, 47, 15, 48, 23, 24, 25, 26, 17, 27, 13, 14, 16, 18, 49, 50, 51, 52, 35, 5, 36, 83, 84] (by decide +kernel) (by decide +kernel)
set_option maxRecDepth 20000 in
theorem gX5_refusalOfPairs_X4_cell : GoodIn wsX5_refusalOfPairs (wsV RX5 67 RX4 yX4_cell wsX4_cell) := goodIn_app (goodIn_of _ (by decide +kernel)) ggX5_refusalOfPairs_X4_cell
set_option maxRecDepth 20000 in
theorem ggX5_refusalOfPairs_X5_isHeight : GoodIn wsX5_refusalOfPairs wsX5_isHeight := goodIn_r _ [55] (by decide +kernel) (by decide +kernel)
set_option maxRecDepth 20000 in
theorem gX5_refusalOfPairs_X5_isHeight : GoodIn wsX5_refusalOfPairs (va_wsS RX5 163 yX5_isHeight wsX5_isHeight) := goodIn_app (goodIn_of _ (by decide +kernel)) ggX5_refusalOfPairs_X5_isHeight
theorem dX5_refusalOfPairs_0 : decode cX5_refusalOfPairs 0 = .ok (.aload_n 0, 1) := by decide +kernel
theorem dX5_refusalOfPairs_1 : decode cX5_refusalOfPairs 1 = .ok (.iload_n 1, 1) := by decide +kernel
theorem dX5_refusalOfPairs_2 : decode cX5_refusalOfPairs 2 = .ok (.invokevirtual 129, 3) := by decide +kernel
theorem dX5_refusalOfPairs_5 : decode cX5_refusalOfPairs 5 = .ok (.ifCond .ne 5, 3) := by decide +kernel
theorem dX5_refusalOfPairs_8 : decode cX5_refusalOfPairs 8 = .ok (.iconst (-1), 1) := by decide +kernel
theorem dX5_refusalOfPairs_9 : decode cX5_refusalOfPairs 9 = .ok (.ireturn, 1) := by decide +kernel
theorem dX5_refusalOfPairs_10 : decode cX5_refusalOfPairs 10 = .ok (.aload_n 0, 1) := by decide +kernel
theorem dX5_refusalOfPairs_11 : decode cX5_refusalOfPairs 11 = .ok (.aload_n 0, 1) := by decide +kernel
theorem dX5_refusalOfPairs_12 : decode cX5_refusalOfPairs 12 = .ok (.getfield 16, 3) := by decide +kernel
theorem dX5_refusalOfPairs_15 : decode cX5_refusalOfPairs 15 = .ok (.iload_n 2, 1) := by decide +kernel
theorem dX5_refusalOfPairs_16 : decode cX5_refusalOfPairs 16 = .ok (.invokevirtual 79, 3) := by decide +kernel
theorem dX5_refusalOfPairs_19 : decode cX5_refusalOfPairs 19 = .ok (.istore_n 3, 1) := by decide +kernel
theorem dX5_refusalOfPairs_20 : decode cX5_refusalOfPairs 20 = .ok (.iload_n 3, 1) := by decide +kernel
theorem dX5_refusalOfPairs_21 : decode cX5_refusalOfPairs 21 = .ok (.ifCond .eq 5, 3) := by decide +kernel
theorem dX5_refusalOfPairs_24 : decode cX5_refusalOfPairs 24 = .ok (.iload_n 3, 1) := by decide +kernel
theorem dX5_refusalOfPairs_25 : decode cX5_refusalOfPairs 25 = .ok (.ireturn, 1) := by decide +kernel
theorem dX5_refusalOfPairs_26 : decode cX5_refusalOfPairs 26 = .ok (.aload_n 0, 1) := by decide +kernel
theorem dX5_refusalOfPairs_27 : decode cX5_refusalOfPairs 27 = .ok (.getfield 16, 3) := by decide +kernel
theorem dX5_refusalOfPairs_30 : decode cX5_refusalOfPairs 30 = .ok (.iload_n 2, 1) := by decide +kernel
theorem dX5_refusalOfPairs_31 : decode cX5_refusalOfPairs 31 = .ok (.invokevirtual 106, 3) := by decide +kernel
theorem dX5_refusalOfPairs_34 : decode cX5_refusalOfPairs 34 = .ok (.istore 4, 2) := by decide +kernel
theorem dX5_refusalOfPairs_36 : decode cX5_refusalOfPairs 36 = .ok (.iload 4, 2) := by decide +kernel
theorem dX5_refusalOfPairs_38 : decode cX5_refusalOfPairs 38 = .ok (.iconst 1, 1) := by decide +kernel
theorem dX5_refusalOfPairs_39 : decode cX5_refusalOfPairs 39 = .ok (.iand, 1) := by decide +kernel
theorem dX5_refusalOfPairs_40 : decode cX5_refusalOfPairs 40 = .ok (.ifCond .eq 9, 3) := by decide +kernel
theorem dX5_refusalOfPairs_43 : decode cX5_refusalOfPairs 43 = .ok (.aload_n 0, 1) := by decide +kernel
theorem dX5_refusalOfPairs_44 : decode cX5_refusalOfPairs 44 = .ok (.iconst 5, 1) := by decide +kernel
theorem dX5_refusalOfPairs_45 : decode cX5_refusalOfPairs 45 = .ok (.invokevirtual 91, 3) := by decide +kernel
theorem dX5_refusalOfPairs_48 : decode cX5_refusalOfPairs 48 = .ok (.ireturn, 1) := by decide +kernel
theorem dX5_refusalOfPairs_49 : decode cX5_refusalOfPairs 49 = .ok (.iconst 0, 1) := by decide +kernel
theorem dX5_refusalOfPairs_50 : decode cX5_refusalOfPairs 50 = .ok (.istore 5, 2) := by decide +kernel
theorem dX5_refusalOfPairs_52 : decode cX5_refusalOfPairs 52 = .ok (.iload 5, 2) := by decide +kernel
theorem dX5_refusalOfPairs_54 : decode cX5_refusalOfPairs 54 = .ok (.iconst 1, 1) := by decide +kernel
theorem dX5_refusalOfPairs_55 : decode cX5_refusalOfPairs 55 = .ok (.iadd, 1) := by decide +kernel
theorem dX5_refusalOfPairs_56 : decode cX5_refusalOfPairs 56 = .ok (.iload 4, 2) := by decide +kernel
theorem dX5_refusalOfPairs_58 : decode cX5_refusalOfPairs 58 = .ok (.if_icmp .ge 57, 3) := by decide +kernel
theorem dX5_refusalOfPairs_61 : decode cX5_refusalOfPairs 61 = .ok (.aload_n 0, 1) := by decide +kernel
theorem dX5_refusalOfPairs_62 : decode cX5_refusalOfPairs 62 = .ok (.getfield 16, 3) := by decide +kernel
theorem dX5_refusalOfPairs_65 : decode cX5_refusalOfPairs 65 = .ok (.iload_n 2, 1) := by decide +kernel
theorem dX5_refusalOfPairs_66 : decode cX5_refusalOfPairs 66 = .ok (.iload 5, 2) := by decide +kernel
theorem dX5_refusalOfPairs_68 : decode cX5_refusalOfPairs 68 = .ok (.iconst 1, 1) := by decide +kernel
theorem dX5_refusalOfPairs_69 : decode cX5_refusalOfPairs 69 = .ok (.iadd, 1) := by decide +kernel
theorem dX5_refusalOfPairs_70 : decode cX5_refusalOfPairs 70 = .ok (.invokevirtual 67, 3) := by decide +kernel
theorem dX5_refusalOfPairs_73 : decode cX5_refusalOfPairs 73 = .ok (.istore 6, 2) := by decide +kernel
theorem dX5_refusalOfPairs_75 : decode cX5_refusalOfPairs 75 = .ok (.aload_n 0, 1) := by decide +kernel
theorem dX5_refusalOfPairs_76 : decode cX5_refusalOfPairs 76 = .ok (.getfield 16, 3) := by decide +kernel
theorem dX5_refusalOfPairs_79 : decode cX5_refusalOfPairs 79 = .ok (.iload_n 2, 1) := by decide +kernel
theorem dX5_refusalOfPairs_80 : decode cX5_refusalOfPairs 80 = .ok (.iload 5, 2) := by decide +kernel
theorem dX5_refusalOfPairs_82 : decode cX5_refusalOfPairs 82 = .ok (.invokevirtual 67, 3) := by decide +kernel
theorem dX5_refusalOfPairs_85 : decode cX5_refusalOfPairs 85 = .ok (.invokestatic 163, 3) := by decide +kernel
theorem dX5_refusalOfPairs_88 : decode cX5_refusalOfPairs 88 = .ok (.ifCond .eq 15, 3) := by decide +kernel
theorem dX5_refusalOfPairs_91 : decode cX5_refusalOfPairs 91 = .ok (.iload 6, 2) := by decide +kernel
theorem dX5_refusalOfPairs_93 : decode cX5_refusalOfPairs 93 = .ok (.ifCond .lt 10, 3) := by decide +kernel
theorem dX5_refusalOfPairs_96 : decode cX5_refusalOfPairs 96 = .ok (.iload 6, 2) := by decide +kernel
theorem dX5_refusalOfPairs_98 : decode cX5_refusalOfPairs 98 = .ok (.bipush 10, 2) := by decide +kernel
theorem dX5_refusalOfPairs_100 : decode cX5_refusalOfPairs 100 = .ok (.if_icmp .le 9, 3) := by decide +kernel
theorem dX5_refusalOfPairs_103 : decode cX5_refusalOfPairs 103 = .ok (.aload_n 0, 1) := by decide +kernel
theorem dX5_refusalOfPairs_104 : decode cX5_refusalOfPairs 104 = .ok (.iconst 3, 1) := by decide +kernel
theorem dX5_refusalOfPairs_105 : decode cX5_refusalOfPairs 105 = .ok (.invokevirtual 91, 3) := by decide +kernel
theorem dX5_refusalOfPairs_108 : decode cX5_refusalOfPairs 108 = .ok (.ireturn, 1) := by decide +kernel
theorem dX5_refusalOfPairs_109 : decode cX5_refusalOfPairs 109 = .ok (.iinc 5 2, 3) := by decide +kernel
theorem dX5_refusalOfPairs_112 : decode cX5_refusalOfPairs 112 = .ok (.goto (-60), 3) := by decide +kernel
theorem dX5_refusalOfPairs_115 : decode cX5_refusalOfPairs 115 = .ok (.iconst 0, 1) := by decide +kernel
theorem dX5_refusalOfPairs_116 : decode cX5_refusalOfPairs 116 = .ok (.ireturn, 1) := by decide +kernel
set_option maxRecDepth 20000 in
theorem ggX5_makeItem_X4_isNumber : GoodIn wsX5_makeItem wsX4_isNumber := goodIn_r _ [5, 6, 7, 34, 35] (by decide +kernel) (by decide +kernel)
set_option maxRecDepth 20000 in
theorem gX5_makeItem_X4_isNumber : GoodIn wsX5_makeItem (wsV RX5 87 RX4 yX4_isNumber wsX4_isNumber) := goodIn_app (goodIn_of _ (by decide +kernel)) ggX5_makeItem_X4_isNumber
set_option maxRecDepth 20000 in
theorem ggX5_makeItem_X5_found : GoodIn wsX5_makeItem wsX5_found := goodIn_r _ [12, 13, 14, 15, 16, 11, 17, 18, 19, 20, 36, 37, 38, 39, 40, 41, 42, 43, 44, 45, 46, 47] (by decide +kernel) (by decide +kernel)
set_option maxRecDepth 20000 in
theorem gX5_makeItem_X5_found : GoodIn wsX5_makeItem (wsV RX5 91 RX5 yX5_found wsX5_found) := goodIn_app (goodIn_of _ (by decide +kernel)) ggX5_makeItem_X5_found
set_option maxRecDepth 20000 in
theorem ggX5_makeItem_X4_make : GoodIn wsX5_makeItem wsX4_make := goodIn_r _ [24, 6, 25, 26, 27, 4, 28, 7, 29, 2, 3, 5, 19, 11, 20, 30, 31, 32, 33, 34, 35] (by decide +kernel) (by decide +kernel)
set_option maxRecDepth 20000 in
theorem gX5_makeItem_X4_make : GoodIn wsX5_makeItem (wsV RX5 252 RX4 yX4_make wsX4_make) := goodIn_app (goodIn_of _ (by decide +kernel)) ggX5_makeItem_X4_make
theorem dX5_makeItem_0 : decode cX5_makeItem 0 = .ok (.aload_n 1, 1) := by decide +kernel
theorem dX5_makeItem_1 : decode cX5_makeItem 1 = .ok (.iload_n 2, 1) := by decide +kernel
theorem dX5_makeItem_2 : decode cX5_makeItem 2 = .ok (.invokevirtual 87, 3) := by decide +kernel
theorem dX5_makeItem_5 : decode cX5_makeItem 5 = .ok (.ifCond .eq 9, 3) := by decide +kernel
theorem dX5_makeItem_8 : decode cX5_makeItem 8 = .ok (.iload_n 3, 1) := by decide +kernel
theorem dX5_makeItem_9 : decode cX5_makeItem 9 = .ok (.iload 4, 2) := by decide +kernel
theorem dX5_makeItem_11 : decode cX5_makeItem 11 = .ok (.if_icmp .le 5, 3) := by decide +kernel
theorem dX5_makeItem_14 : decode cX5_makeItem 14 = .ok (.iconst (-1), 1) := by decide +kernel
theorem dX5_makeItem_15 : decode cX5_makeItem 15 = .ok (.ireturn, 1) := by decide +kernel
theorem dX5_makeItem_16 : decode cX5_makeItem 16 = .ok (.iload_n 3, 1) := by decide +kernel
theorem dX5_makeItem_17 : decode cX5_makeItem 17 = .ok (.ifCond .ge 9, 3) := by decide +kernel
theorem dX5_makeItem_20 : decode cX5_makeItem 20 = .ok (.aload_n 0, 1) := by decide +kernel
theorem dX5_makeItem_21 : decode cX5_makeItem 21 = .ok (.iconst 5, 1) := by decide +kernel
theorem dX5_makeItem_22 : decode cX5_makeItem 22 = .ok (.invokevirtual 91, 3) := by decide +kernel
theorem dX5_makeItem_25 : decode cX5_makeItem 25 = .ok (.ireturn, 1) := by decide +kernel
theorem dX5_makeItem_26 : decode cX5_makeItem 26 = .ok (.aload_n 1, 1) := by decide +kernel
theorem dX5_makeItem_27 : decode cX5_makeItem 27 = .ok (.iload_n 2, 1) := by decide +kernel
theorem dX5_makeItem_28 : decode cX5_makeItem 28 = .ok (.iload_n 3, 1) := by decide +kernel
theorem dX5_makeItem_29 : decode cX5_makeItem 29 = .ok (.iload 5, 2) := by decide +kernel
theorem dX5_makeItem_31 : decode cX5_makeItem 31 = .ok (.invokevirtual 252, 3) := by decide +kernel
theorem dX5_makeItem_34 : decode cX5_makeItem 34 = .ok (.iload_n 3, 1) := by decide +kernel
theorem dX5_makeItem_35 : decode cX5_makeItem 35 = .ok (.ireturn, 1) := by decide +kernel
set_option maxRecDepth 20000 in
theorem ggX5_tellParts_X5_greatestDivisor : GoodIn wsX5_tellParts wsX5_greatestDivisor := goodIn_r _ [6] (by decide +kernel) (by decide +kernel)
set_option maxRecDepth 20000 in
theorem gX5_tellParts_X5_greatestDivisor : GoodIn wsX5_tellParts (va_wsS RX5 339 yX5_greatestDivisor wsX5_greatestDivisor) := goodIn_app (goodIn_of _ (by decide +kernel)) ggX5_tellParts_X5_greatestDivisor
theorem dX5_tellParts_0 : decode cX5_tellParts 0 = .ok (.iload_n 1, 1) := by decide +kernel
