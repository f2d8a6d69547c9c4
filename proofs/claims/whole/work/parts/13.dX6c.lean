theorem dX6_isOf_1 : decode cX6_isOf 1 = .ok (.iload_n 1, 1) := by decide +kernel
theorem dX6_isOf_2 : decode cX6_isOf 2 = .ok (.if_icmp .eq 23, 3) := by decide +kernel
theorem dX6_isOf_5 : decode cX6_isOf 5 = .ok (.iload_n 1, 1) := by decide +kernel
theorem dX6_isOf_6 : decode cX6_isOf 6 = .ok (.iconst 1, 1) := by decide +kernel
theorem dX6_isOf_7 : decode cX6_isOf 7 = .ok (.if_icmp .ne 8, 3) := by decide +kernel
theorem dX6_isOf_10 : decode cX6_isOf 10 = .ok (.iload_n 0, 1) := by decide +kernel
theorem dX6_isOf_11 : decode cX6_isOf 11 = .ok (.iconst 4, 1) := by decide +kernel
theorem dX6_isOf_12 : decode cX6_isOf 12 = .ok (.if_icmp .eq 13, 3) := by decide +kernel
theorem dX6_isOf_15 : decode cX6_isOf 15 = .ok (.iload_n 1, 1) := by decide +kernel
theorem dX6_isOf_16 : decode cX6_isOf 16 = .ok (.iconst 2, 1) := by decide +kernel
theorem dX6_isOf_17 : decode cX6_isOf 17 = .ok (.if_icmp .ne 12, 3) := by decide +kernel
theorem dX6_isOf_20 : decode cX6_isOf 20 = .ok (.iload_n 0, 1) := by decide +kernel
theorem dX6_isOf_21 : decode cX6_isOf 21 = .ok (.iconst 5, 1) := by decide +kernel
theorem dX6_isOf_22 : decode cX6_isOf 22 = .ok (.if_icmp .ne 7, 3) := by decide +kernel
theorem dX6_isOf_25 : decode cX6_isOf 25 = .ok (.iconst 1, 1) := by decide +kernel
theorem dX6_isOf_26 : decode cX6_isOf 26 = .ok (.goto 4, 3) := by decide +kernel
theorem dX6_isOf_29 : decode cX6_isOf 29 = .ok (.iconst 0, 1) := by decide +kernel
theorem dX6_isOf_30 : decode cX6_isOf 30 = .ok (.ireturn, 1) := by decide +kernel
set_option maxRecDepth 20000 in
theorem ggX6_mark_X6_isWoman : GoodIn wsX6_mark wsX6_isWoman := goodIn_r _ [9, 10, 11, 12, 8, 13, 39, 40, 41, 42, 43, 44, 45, 46, 47, 48, 49, 50, 51, 52, 53, 54, 55, 56, 57, 58, 59, 60, 61, 62, 63, 64, 65, 66, 67, 68, 69, 70, 71, 72, 73, 74, 75, 76, 77, 78, 79, 80] (by decide +kernel) (by decide +kernel)
set_option maxRecDepth 20000 in
theorem gX6_mark_X6_isWoman : GoodIn wsX6_mark (wsV RX6 203 RX6 yX6_isWoman wsX6_isWoman) := goodIn_app (goodIn_of _ (by decide +kernel)) ggX6_mark_X6_isWoman
set_option maxRecDepth 20000 in
theorem ggX6_mark_X6_in : GoodIn wsX6_mark wsX6_in := goodIn_r _ [13] (by decide +kernel) (by decide +kernel)
set_option maxRecDepth 20000 in
theorem gX6_mark_X6_in : GoodIn wsX6_mark (va_wsS RX6 109 yX6_in wsX6_in) := goodIn_app (goodIn_of _ (by decide +kernel)) ggX6_mark_X6_in
set_option maxRecDepth 20000 in
theorem ggX6_mark_X6_isOf : GoodIn wsX6_mark wsX6_isOf := goodIn_r _ [16] (by decide +kernel) (by decide +kernel)
set_option maxRecDepth 20000 in
theorem gX6_mark_X6_isOf : GoodIn wsX6_mark (va_wsS RX6 209 yX6_isOf wsX6_isOf) := goodIn_app (goodIn_of _ (by decide +kernel)) ggX6_mark_X6_isOf
set_option maxRecDepth 20000 in
theorem ggX6_mark_X6_refuse : GoodIn wsX6_mark wsX6_refuse := goodIn_r _ [20, 21, 22, 39, 40, 41, 42, 43, 44, 45, 46, 47, 48, 49, 50, 51, 52, 53, 54, 55, 56, 57, 58, 59, 60, 61, 62, 63, 64, 65, 66, 67, 68, 69, 70, 71, 72, 73, 74, 75, 76, 77, 78, 79, 80] (by decide +kernel) (by decide +kernel)
set_option maxRecDepth 20000 in
theorem gX6_mark_X6_refuse : GoodIn wsX6_mark (wsV RX6 117 RX6 yX6_refuse wsX6_refuse) := goodIn_app (goodIn_of _ (by decide +kernel)) ggX6_mark_X6_refuse
set_option maxRecDepth 20000 in
theorem ggX6_mark_X6_hemThen : GoodIn wsX6_mark wsX6_hemThen := goodIn_r _ [26, 27, 28, 29, 30, 31, 8, 32, 33, 34, 35, 36, 37, 38, 39, 40, 41, 42, 43, 44, 45, 46, 47, 48, 49, 50, 51, 52, 53, 54, 55, 56, 57, 58, 59, 60, 61, 62, 63, 64, 65, 66, 67, 68, 69, 70, 71, 72, 73, 74, 75, 76, 77, 78, 79, 80] (by decide +kernel) (by decide +kernel)
set_option maxRecDepth 20000 in
theorem gX6_mark_X6_hemThen : GoodIn wsX6_mark (wsV RX6 213 RX6 yX6_hemThen wsX6_hemThen) := goodIn_app (goodIn_of _ (by decide +kernel)) ggX6_mark_X6_hemThen
theorem dX6_mark_0 : decode cX6_mark 0 = .ok (.aload_n 0, 1) := by decide +kernel
theorem dX6_mark_1 : decode cX6_mark 1 = .ok (.iload_n 1, 1) := by decide +kernel
theorem dX6_mark_2 : decode cX6_mark 2 = .ok (.invokevirtual 203, 3) := by decide +kernel
theorem dX6_mark_5 : decode cX6_mark 5 = .ok (.ifCond .eq 12, 3) := by decide +kernel
theorem dX6_mark_8 : decode cX6_mark 8 = .ok (.iload_n 2, 1) := by decide +kernel
theorem dX6_mark_9 : decode cX6_mark 9 = .ok (.iconst 1, 1) := by decide +kernel
theorem dX6_mark_10 : decode cX6_mark 10 = .ok (.iconst 5, 1) := by decide +kernel
theorem dX6_mark_11 : decode cX6_mark 11 = .ok (.invokestatic 109, 3) := by decide +kernel
theorem dX6_mark_14 : decode cX6_mark 14 = .ok (.ifCond .ne 5, 3) := by decide +kernel
theorem dX6_mark_17 : decode cX6_mark 17 = .ok (.iconst (-1), 1) := by decide +kernel
theorem dX6_mark_18 : decode cX6_mark 18 = .ok (.ireturn, 1) := by decide +kernel
theorem dX6_mark_19 : decode cX6_mark 19 = .ok (.aload_n 0, 1) := by decide +kernel
theorem dX6_mark_20 : decode cX6_mark 20 = .ok (.getfield 44, 3) := by decide +kernel
theorem dX6_mark_23 : decode cX6_mark 23 = .ok (.iload_n 1, 1) := by decide +kernel
theorem dX6_mark_24 : decode cX6_mark 24 = .ok (.iaload, 1) := by decide +kernel
theorem dX6_mark_25 : decode cX6_mark 25 = .ok (.iload_n 2, 1) := by decide +kernel
theorem dX6_mark_26 : decode cX6_mark 26 = .ok (.invokestatic 209, 3) := by decide +kernel
theorem dX6_mark_29 : decode cX6_mark 29 = .ok (.ifCond .ne 9, 3) := by decide +kernel
theorem dX6_mark_32 : decode cX6_mark 32 = .ok (.aload_n 0, 1) := by decide +kernel
theorem dX6_mark_33 : decode cX6_mark 33 = .ok (.iconst 3, 1) := by decide +kernel
theorem dX6_mark_34 : decode cX6_mark 34 = .ok (.invokevirtual 117, 3) := by decide +kernel
theorem dX6_mark_37 : decode cX6_mark 37 = .ok (.ireturn, 1) := by decide +kernel
theorem dX6_mark_38 : decode cX6_mark 38 = .ok (.iload_n 2, 1) := by decide +kernel
theorem dX6_mark_39 : decode cX6_mark 39 = .ok (.iconst 5, 1) := by decide +kernel
theorem dX6_mark_40 : decode cX6_mark 40 = .ok (.if_icmp .ne 10, 3) := by decide +kernel
theorem dX6_mark_43 : decode cX6_mark 43 = .ok (.aload_n 0, 1) := by decide +kernel
theorem dX6_mark_44 : decode cX6_mark 44 = .ok (.getfield 185, 3) := by decide +kernel
theorem dX6_mark_47 : decode cX6_mark 47 = .ok (.iconst 2, 1) := by decide +kernel
theorem dX6_mark_48 : decode cX6_mark 48 = .ok (.irem, 1) := by decide +kernel
theorem dX6_mark_49 : decode cX6_mark 49 = .ok (.ireturn, 1) := by decide +kernel
theorem dX6_mark_50 : decode cX6_mark 50 = .ok (.iconst 0, 1) := by decide +kernel
theorem dX6_mark_51 : decode cX6_mark 51 = .ok (.istore_n 3, 1) := by decide +kernel
theorem dX6_mark_52 : decode cX6_mark 52 = .ok (.iconst 0, 1) := by decide +kernel
theorem dX6_mark_53 : decode cX6_mark 53 = .ok (.istore 4, 2) := by decide +kernel
theorem dX6_mark_55 : decode cX6_mark 55 = .ok (.iload 4, 2) := by decide +kernel
theorem dX6_mark_57 : decode cX6_mark 57 = .ok (.aload_n 0, 1) := by decide +kernel
theorem dX6_mark_58 : decode cX6_mark 58 = .ok (.getfield 185, 3) := by decide +kernel
theorem dX6_mark_61 : decode cX6_mark 61 = .ok (.if_icmp .ge 92, 3) := by decide +kernel
theorem dX6_mark_64 : decode cX6_mark 64 = .ok (.aload_n 0, 1) := by decide +kernel
theorem dX6_mark_65 : decode cX6_mark 65 = .ok (.getfield 71, 3) := by decide +kernel
theorem dX6_mark_68 : decode cX6_mark 68 = .ok (.bipush 6, 2) := by decide +kernel
theorem dX6_mark_70 : decode cX6_mark 70 = .ok (.iload 4, 2) := by decide +kernel
theorem dX6_mark_72 : decode cX6_mark 72 = .ok (.imul, 1) := by decide +kernel
theorem dX6_mark_73 : decode cX6_mark 73 = .ok (.iload_n 1, 1) := by decide +kernel
theorem dX6_mark_74 : decode cX6_mark 74 = .ok (.iadd, 1) := by decide +kernel
theorem dX6_mark_75 : decode cX6_mark 75 = .ok (.iaload, 1) := by decide +kernel
theorem dX6_mark_76 : decode cX6_mark 76 = .ok (.aload_n 0, 1) := by decide +kernel
theorem dX6_mark_77 : decode cX6_mark 77 = .ok (.iconst 0, 1) := by decide +kernel
theorem dX6_mark_78 : decode cX6_mark 78 = .ok (.iload_n 1, 1) := by decide +kernel
theorem dX6_mark_79 : decode cX6_mark 79 = .ok (.iload 4, 2) := by decide +kernel
theorem dX6_mark_81 : decode cX6_mark 81 = .ok (.aload_n 0, 1) := by decide +kernel
theorem dX6_mark_82 : decode cX6_mark 82 = .ok (.getfield 68, 3) := by decide +kernel
theorem dX6_mark_85 : decode cX6_mark 85 = .ok (.iload 4, 2) := by decide +kernel
theorem dX6_mark_87 : decode cX6_mark 87 = .ok (.iaload, 1) := by decide +kernel
theorem dX6_mark_88 : decode cX6_mark 88 = .ok (.invokevirtual 213, 3) := by decide +kernel
theorem dX6_mark_91 : decode cX6_mark 91 = .ok (.isub, 1) := by decide +kernel
theorem dX6_mark_92 : decode cX6_mark 92 = .ok (.istore 5, 2) := by decide +kernel
theorem dX6_mark_94 : decode cX6_mark 94 = .ok (.iload_n 3, 1) := by decide +kernel
theorem dX6_mark_95 : decode cX6_mark 95 = .ok (.iload_n 2, 1) := by decide +kernel
theorem dX6_mark_96 : decode cX6_mark 96 = .ok (.iconst 1, 1) := by decide +kernel
theorem dX6_mark_97 : decode cX6_mark 97 = .ok (.if_icmp .ne 17, 3) := by decide +kernel
theorem dX6_mark_100 : decode cX6_mark 100 = .ok (.iload 5, 2) := by decide +kernel
theorem dX6_mark_102 : decode cX6_mark 102 = .ok (.iconst 2, 1) := by decide +kernel
theorem dX6_mark_103 : decode cX6_mark 103 = .ok (.if_icmp .lt 7, 3) := by decide +kernel
theorem dX6_mark_106 : decode cX6_mark 106 = .ok (.iconst 1, 1) := by decide +kernel
theorem dX6_mark_107 : decode cX6_mark 107 = .ok (.goto 38, 3) := by decide +kernel
theorem dX6_mark_110 : decode cX6_mark 110 = .ok (.iconst 0, 1) := by decide +kernel
theorem dX6_mark_111 : decode cX6_mark 111 = .ok (.goto 34, 3) := by decide +kernel
theorem dX6_mark_114 : decode cX6_mark 114 = .ok (.iload_n 2, 1) := by decide +kernel
theorem dX6_mark_115 : decode cX6_mark 115 = .ok (.iconst 2, 1) := by decide +kernel
theorem dX6_mark_116 : decode cX6_mark 116 = .ok (.if_icmp .ne 9, 3) := by decide +kernel
theorem dX6_mark_119 : decode cX6_mark 119 = .ok (.iload 5, 2) := by decide +kernel
theorem dX6_mark_121 : decode cX6_mark 121 = .ok (.ineg, 1) := by decide +kernel
theorem dX6_mark_122 : decode cX6_mark 122 = .ok (.goto 23, 3) := by decide +kernel
theorem dX6_mark_125 : decode cX6_mark 125 = .ok (.iload_n 2, 1) := by decide +kernel
theorem dX6_mark_126 : decode cX6_mark 126 = .ok (.iconst 3, 1) := by decide +kernel
theorem dX6_mark_127 : decode cX6_mark 127 = .ok (.if_icmp .ne 16, 3) := by decide +kernel
theorem dX6_mark_130 : decode cX6_mark 130 = .ok (.iload 5, 2) := by decide +kernel
theorem dX6_mark_132 : decode cX6_mark 132 = .ok (.ifCond .ge 7, 3) := by decide +kernel
theorem dX6_mark_135 : decode cX6_mark 135 = .ok (.iconst 1, 1) := by decide +kernel
theorem dX6_mark_136 : decode cX6_mark 136 = .ok (.goto 9, 3) := by decide +kernel
theorem dX6_mark_139 : decode cX6_mark 139 = .ok (.iconst 0, 1) := by decide +kernel
theorem dX6_mark_140 : decode cX6_mark 140 = .ok (.goto 5, 3) := by decide +kernel
theorem dX6_mark_143 : decode cX6_mark 143 = .ok (.iload 5, 2) := by decide +kernel
theorem dX6_mark_145 : decode cX6_mark 145 = .ok (.iadd, 1) := by decide +kernel
theorem dX6_mark_146 : decode cX6_mark 146 = .ok (.istore_n 3, 1) := by decide +kernel
theorem dX6_mark_147 : decode cX6_mark 147 = .ok (.iinc 4 1, 3) := by decide +kernel
theorem dX6_mark_150 : decode cX6_mark 150 = .ok (.goto (-95), 3) := by decide +kernel
theorem dX6_mark_153 : decode cX6_mark 153 = .ok (.iload_n 3, 1) := by decide +kernel
theorem dX6_mark_154 : decode cX6_mark 154 = .ok (.ireturn, 1) := by decide +kernel
set_option maxRecDepth 20000 in
theorem ggX6_isYear_X6_in : GoodIn wsX6_isYear wsX6_in := goodIn_r _ [5] (by decide +kernel) (by decide +kernel)
set_option maxRecDepth 20000 in
theorem gX6_isYear_X6_in : GoodIn wsX6_isYear (va_wsS RX6 109 yX6_in wsX6_in) := goodIn_app (goodIn_of _ (by decide +kernel)) ggX6_isYear_X6_in
theorem dX6_isYear_0 : decode cX6_isYear 0 = .ok (.iload_n 1, 1) := by decide +kernel
theorem dX6_isYear_1 : decode cX6_isYear 1 = .ok (.iconst 0, 1) := by decide +kernel
theorem dX6_isYear_2 : decode cX6_isYear 2 = .ok (.aload_n 0, 1) := by decide +kernel
theorem dX6_isYear_3 : decode cX6_isYear 3 = .ok (.getfield 185, 3) := by decide +kernel
theorem dX6_isYear_6 : decode cX6_isYear 6 = .ok (.iconst 1, 1) := by decide +kernel
theorem dX6_isYear_7 : decode cX6_isYear 7 = .ok (.isub, 1) := by decide +kernel
theorem dX6_isYear_8 : decode cX6_isYear 8 = .ok (.invokestatic 109, 3) := by decide +kernel
theorem dX6_isYear_11 : decode cX6_isYear 11 = .ok (.ireturn, 1) := by decide +kernel
set_option maxRecDepth 20000 in
theorem ggX6_hem_X6_isWoman : GoodIn wsX6_hem wsX6_isWoman := goodIn_r _ [6, 7, 8, 9, 5, 10, 16, 17, 18, 19, 20, 21, 22, 23, 24, 25, 26, 27, 28, 29, 30, 31, 32, 33, 34, 35, 36, 37, 38, 39, 40, 41, 42, 43, 44, 45, 46, 47, 48, 49, 50, 51, 52, 53, 54, 55, 56, 57] (by decide +kernel) (by decide +kernel)
set_option maxRecDepth 20000 in
theorem gX6_hem_X6_isWoman : GoodIn wsX6_hem (wsV RX6 203 RX6 yX6_isWoman wsX6_isWoman) := goodIn_app (goodIn_of _ (by decide +kernel)) ggX6_hem_X6_isWoman
set_option maxRecDepth 20000 in
theorem ggX6_hem_X6_isYear : GoodIn wsX6_hem wsX6_isYear := goodIn_r _ [14, 15, 8, 9, 5, 10, 16, 17, 18, 19, 20, 21, 22, 23, 24, 25, 26, 27, 28, 29, 30, 31, 32, 33, 34, 35, 36, 37, 38, 39, 40, 41, 42, 43, 44, 45, 46, 47, 48, 49, 50, 51, 52, 53, 54, 55, 56, 57] (by decide +kernel) (by decide +kernel)
set_option maxRecDepth 20000 in
theorem gX6_hem_X6_isYear : GoodIn wsX6_hem (wsV RX6 217 RX6 yX6_isYear wsX6_isYear) := goodIn_app (goodIn_of _ (by decide +kernel)) ggX6_hem_X6_isYear
theorem dX6_hem_0 : decode cX6_hem 0 = .ok (.aload_n 0, 1) := by decide +kernel
theorem dX6_hem_1 : decode cX6_hem 1 = .ok (.iload_n 1, 1) := by decide +kernel
theorem dX6_hem_2 : decode cX6_hem 2 = .ok (.invokevirtual 203, 3) := by decide +kernel
theorem dX6_hem_5 : decode cX6_hem 5 = .ok (.ifCond .eq 25, 3) := by decide +kernel
theorem dX6_hem_8 : decode cX6_hem 8 = .ok (.aload_n 0, 1) := by decide +kernel
theorem dX6_hem_9 : decode cX6_hem 9 = .ok (.iload_n 2, 1) := by decide +kernel
theorem dX6_hem_10 : decode cX6_hem 10 = .ok (.invokevirtual 217, 3) := by decide +kernel
theorem dX6_hem_13 : decode cX6_hem 13 = .ok (.ifCond .eq 17, 3) := by decide +kernel
theorem dX6_hem_16 : decode cX6_hem 16 = .ok (.aload_n 0, 1) := by decide +kernel
theorem dX6_hem_17 : decode cX6_hem 17 = .ok (.getfield 71, 3) := by decide +kernel
theorem dX6_hem_20 : decode cX6_hem 20 = .ok (.bipush 6, 2) := by decide +kernel
theorem dX6_hem_22 : decode cX6_hem 22 = .ok (.iload_n 2, 1) := by decide +kernel
theorem dX6_hem_23 : decode cX6_hem 23 = .ok (.imul, 1) := by decide +kernel
theorem dX6_hem_24 : decode cX6_hem 24 = .ok (.iload_n 1, 1) := by decide +kernel
theorem dX6_hem_25 : decode cX6_hem 25 = .ok (.iadd, 1) := by decide +kernel
theorem dX6_hem_26 : decode cX6_hem 26 = .ok (.iaload, 1) := by decide +kernel
theorem dX6_hem_27 : decode cX6_hem 27 = .ok (.goto 4, 3) := by decide +kernel
theorem dX6_hem_30 : decode cX6_hem 30 = .ok (.iconst (-1), 1) := by decide +kernel
theorem dX6_hem_31 : decode cX6_hem 31 = .ok (.ireturn, 1) := by decide +kernel
set_option maxRecDepth 20000 in
theorem ggX6_would_X6_isWoman : GoodIn wsX6_would wsX6_isWoman := goodIn_r _ [6, 7, 8, 9, 5, 10, 32, 33, 34, 35, 36, 37, 38, 39, 40, 41, 42, 43, 44, 45, 46, 47, 48, 49, 50, 51, 52, 53, 54, 55, 56, 57, 58, 59, 60, 61, 62, 63, 64, 65, 66, 67, 68, 69, 70, 71, 72, 73] (by decide +kernel) (by decide +kernel)
set_option maxRecDepth 20000 in
theorem gX6_would_X6_isWoman : GoodIn wsX6_would (wsV RX6 203 RX6 yX6_isWoman wsX6_isWoman) := goodIn_app (goodIn_of _ (by decide +kernel)) ggX6_would_X6_isWoman
set_option maxRecDepth 20000 in
theorem ggX6_would_X6_isHeight : GoodIn wsX6_would wsX6_isHeight := goodIn_r _ [13, 8, 9, 5, 10] (by decide +kernel) (by decide +kernel)
set_option maxRecDepth 20000 in
theorem gX6_would_X6_isHeight : GoodIn wsX6_would (va_wsS RX6 220 yX6_isHeight wsX6_isHeight) := goodIn_app (goodIn_of _ (by decide +kernel)) ggX6_would_X6_isHeight
set_option maxRecDepth 20000 in
theorem ggX6_would_X6_hemNow : GoodIn wsX6_would wsX6_hemNow := goodIn_r _ [17, 18, 19, 20, 21, 22, 23, 24, 5, 25, 26, 27, 28, 29, 30, 31, 32, 33, 34, 35, 36, 37, 38, 39, 40, 41, 42, 43, 44, 45, 46, 47, 48, 49, 50, 51, 52, 53, 54, 55, 56, 57, 58, 59, 60, 61, 62, 63, 64, 65, 66, 67, 68, 69, 70, 71, 72, 73] (by decide +kernel) (by decide +kernel)
set_option maxRecDepth 20000 in
theorem gX6_would_X6_hemNow : GoodIn wsX6_would (wsV RX6 192 RX6 yX6_hemNow wsX6_hemNow) := goodIn_app (goodIn_of _ (by decide +kernel)) ggX6_would_X6_hemNow
theorem dX6_would_0 : decode cX6_would 0 = .ok (.aload_n 0, 1) := by decide +kernel
theorem dX6_would_1 : decode cX6_would 1 = .ok (.iload_n 1, 1) := by decide +kernel
theorem dX6_would_2 : decode cX6_would 2 = .ok (.invokevirtual 203, 3) := by decide +kernel
theorem dX6_would_5 : decode cX6_would 5 = .ok (.ifCond .eq 25, 3) := by decide +kernel
theorem dX6_would_8 : decode cX6_would 8 = .ok (.iload_n 2, 1) := by decide +kernel
theorem dX6_would_9 : decode cX6_would 9 = .ok (.invokestatic 220, 3) := by decide +kernel
theorem dX6_would_12 : decode cX6_would 12 = .ok (.ifCond .eq 18, 3) := by decide +kernel
theorem dX6_would_15 : decode cX6_would 15 = .ok (.aload_n 0, 1) := by decide +kernel
theorem dX6_would_16 : decode cX6_would 16 = .ok (.aload_n 0, 1) := by decide +kernel
theorem dX6_would_17 : decode cX6_would 17 = .ok (.getfield 44, 3) := by decide +kernel
theorem dX6_would_20 : decode cX6_would 20 = .ok (.iload_n 1, 1) := by decide +kernel
theorem dX6_would_21 : decode cX6_would 21 = .ok (.iaload, 1) := by decide +kernel
theorem dX6_would_22 : decode cX6_would 22 = .ok (.iload_n 1, 1) := by decide +kernel
theorem dX6_would_23 : decode cX6_would 23 = .ok (.iload_n 2, 1) := by decide +kernel
theorem dX6_would_24 : decode cX6_would 24 = .ok (.invokevirtual 192, 3) := by decide +kernel
theorem dX6_would_27 : decode cX6_would 27 = .ok (.goto 4, 3) := by decide +kernel
theorem dX6_would_30 : decode cX6_would 30 = .ok (.iconst (-1), 1) := by decide +kernel
theorem dX6_would_31 : decode cX6_would 31 = .ok (.ireturn, 1) := by decide +kernel
set_option maxRecDepth 20000 in
theorem ggX6_flood_X6_isHeight : GoodIn wsX6_flood wsX6_isHeight := goodIn_r _ [7, 8, 9, 6, 10] (by decide +kernel) (by decide +kernel)
set_option maxRecDepth 20000 in
theorem gX6_flood_X6_isHeight : GoodIn wsX6_flood (va_wsS RX6 220 yX6_isHeight wsX6_isHeight) := goodIn_app (goodIn_of _ (by decide +kernel)) ggX6_flood_X6_isHeight
set_option maxRecDepth 20000 in
theorem ggX6_flood_X6_does : GoodIn wsX6_flood wsX6_does := goodIn_r _ [14, 15, 3, 16, 17, 18, 6, 19, 1, 2, 20, 21, 22, 23, 24, 25, 26, 27, 28, 29, 30, 31, 32, 33, 34, 35, 36, 37, 38, 39, 40, 41, 42, 47, 48, 49, 50, 51, 52, 53, 54, 55, 56, 57, 58, 59, 60, 61, 62, 63, 64, 65, 66, 67, 68, 69, 70, 71, 72, 73, 74, 75, 76, 77, 78, 79, 80, 81, 82, 83, 84, 85, 86, 87, 88] (by decide +kernel) (by decide +kernel)
set_option maxRecDepth 20000 in
theorem gX6_flood_X6_does : GoodIn wsX6_flood (wsV RX6 223 RX6 yX6_does wsX6_does) := goodIn_app (goodIn_of _ (by decide +kernel)) ggX6_flood_X6_does
set_option maxRecDepth 20000 in
theorem ggX6_flood_X6_manyWet : GoodIn wsX6_flood wsX6_manyWet := goodIn_r _ [46, 1, 23, 24, 34, 35, 6, 36, 47, 48, 49, 50, 51, 52, 53, 54, 55, 56, 57, 58, 59, 60, 61, 62, 63, 64, 65, 66, 67, 68, 69, 70, 71, 72, 73, 74, 75, 76, 77, 78, 79, 80, 81, 82, 83, 84, 85, 86, 87, 88] (by decide +kernel) (by decide +kernel)
set_option maxRecDepth 20000 in
theorem gX6_flood_X6_manyWet : GoodIn wsX6_flood (wsV RX6 226 RX6 yX6_manyWet wsX6_manyWet) := goodIn_app (goodIn_of _ (by decide +kernel)) ggX6_flood_X6_manyWet
theorem dX6_flood_0 : decode cX6_flood 0 = .ok (.iload_n 1, 1) := by decide +kernel
theorem dX6_flood_1 : decode cX6_flood 1 = .ok (.invokestatic 220, 3) := by decide +kernel
theorem dX6_flood_4 : decode cX6_flood 4 = .ok (.ifCond .ne 5, 3) := by decide +kernel
theorem dX6_flood_7 : decode cX6_flood 7 = .ok (.iconst (-1), 1) := by decide +kernel
theorem dX6_flood_8 : decode cX6_flood 8 = .ok (.ireturn, 1) := by decide +kernel
theorem dX6_flood_9 : decode cX6_flood 9 = .ok (.aload_n 0, 1) := by decide +kernel
theorem dX6_flood_10 : decode cX6_flood 10 = .ok (.getfield 167, 3) := by decide +kernel
theorem dX6_flood_13 : decode cX6_flood 13 = .ok (.ifCond .eq 12, 3) := by decide +kernel
theorem dX6_flood_16 : decode cX6_flood 16 = .ok (.aload_n 0, 1) := by decide +kernel
theorem dX6_flood_17 : decode cX6_flood 17 = .ok (.getfield 185, 3) := by decide +kernel
theorem dX6_flood_20 : decode cX6_flood 20 = .ok (.bipush 8, 2) := by decide +kernel
theorem dX6_flood_22 : decode cX6_flood 22 = .ok (.if_icmp .ne 6, 3) := by decide +kernel
theorem dX6_flood_25 : decode cX6_flood 25 = .ok (.bipush (-4), 2) := by decide +kernel
theorem dX6_flood_27 : decode cX6_flood 27 = .ok (.ireturn, 1) := by decide +kernel
theorem dX6_flood_28 : decode cX6_flood 28 = .ok (.aload_n 0, 1) := by decide +kernel
theorem dX6_flood_29 : decode cX6_flood 29 = .ok (.getfield 173, 3) := by decide +kernel
theorem dX6_flood_32 : decode cX6_flood 32 = .ok (.bipush 40, 2) := by decide +kernel
theorem dX6_flood_34 : decode cX6_flood 34 = .ok (.if_icmp .ne 6, 3) := by decide +kernel
theorem dX6_flood_37 : decode cX6_flood 37 = .ok (.bipush (-2), 2) := by decide +kernel
theorem dX6_flood_39 : decode cX6_flood 39 = .ok (.ireturn, 1) := by decide +kernel
theorem dX6_flood_40 : decode cX6_flood 40 = .ok (.aload_n 0, 1) := by decide +kernel
theorem dX6_flood_41 : decode cX6_flood 41 = .ok (.iconst 0, 1) := by decide +kernel
theorem dX6_flood_42 : decode cX6_flood 42 = .ok (.iload_n 1, 1) := by decide +kernel
theorem dX6_flood_43 : decode cX6_flood 43 = .ok (.iconst 0, 1) := by decide +kernel
theorem dX6_flood_44 : decode cX6_flood 44 = .ok (.invokevirtual 223, 3) := by decide +kernel
theorem dX6_flood_47 : decode cX6_flood 47 = .ok (.aload_n 0, 1) := by decide +kernel
theorem dX6_flood_48 : decode cX6_flood 48 = .ok (.iload_n 1, 1) := by decide +kernel
theorem dX6_flood_49 : decode cX6_flood 49 = .ok (.invokevirtual 226, 3) := by decide +kernel
theorem dX6_flood_52 : decode cX6_flood 52 = .ok (.ireturn, 1) := by decide +kernel
set_option maxRecDepth 20000 in
theorem ggX6_move_X6_isWoman : GoodIn wsX6_move wsX6_isWoman := goodIn_r _ [7, 8, 9, 10, 6, 11, 47, 48, 49, 50, 51, 52, 53, 54, 55, 56, 57, 58, 59, 60, 61, 62, 63, 64, 65, 66, 67, 68, 69, 70, 71, 72, 73, 74, 75, 76, 77, 78, 79, 80, 81, 82, 83, 84, 85, 86, 87, 88] (by decide +kernel) (by decide +kernel)
set_option maxRecDepth 20000 in
theorem gX6_move_X6_isWoman : GoodIn wsX6_move (wsV RX6 203 RX6 yX6_isWoman wsX6_isWoman) := goodIn_app (goodIn_of _ (by decide +kernel)) ggX6_move_X6_isWoman
set_option maxRecDepth 20000 in
theorem ggX6_move_X6_isPlace : GoodIn wsX6_move wsX6_isPlace := goodIn_r _ [14, 9, 10, 6, 11] (by decide +kernel) (by decide +kernel)
set_option maxRecDepth 20000 in
theorem gX6_move_X6_isPlace : GoodIn wsX6_move (va_wsS RX6 229 yX6_isPlace wsX6_isPlace) := goodIn_app (goodIn_of _ (by decide +kernel)) ggX6_move_X6_isPlace
set_option maxRecDepth 20000 in
theorem ggX6_move_X6_does : GoodIn wsX6_move wsX6_does := goodIn_r _ [18, 19, 2, 20, 21, 22, 6, 23, 8, 24, 25, 26, 27, 28, 1, 29, 30, 31, 32, 33, 34, 35, 36, 37, 38, 39, 40, 41, 42, 43, 44, 45, 46, 47, 48, 49, 50, 51, 52, 53, 54, 55, 56, 57, 58, 59, 60, 61, 62, 63, 64, 65, 66, 67, 68, 69, 70, 71, 72, 73, 74, 75, 76, 77, 78, 79, 80, 81, 82, 83, 84, 85, 86, 87, 88] (by decide +kernel) (by decide +kernel)
set_option maxRecDepth 20000 in
theorem gX6_move_X6_does : GoodIn wsX6_move (wsV RX6 223 RX6 yX6_does wsX6_does) := goodIn_app (goodIn_of _ (by decide +kernel)) ggX6_move_X6_does
theorem dX6_move_0 : decode cX6_move 0 = .ok (.aload_n 0, 1) := by decide +kernel
theorem dX6_move_1 : decode cX6_move 1 = .ok (.iload_n 1, 1) := by decide +kernel
theorem dX6_move_2 : decode cX6_move 2 = .ok (.invokevirtual 203, 3) := by decide +kernel
theorem dX6_move_5 : decode cX6_move 5 = .ok (.ifCond .eq 10, 3) := by decide +kernel
theorem dX6_move_8 : decode cX6_move 8 = .ok (.iload_n 2, 1) := by decide +kernel
theorem dX6_move_9 : decode cX6_move 9 = .ok (.invokestatic 229, 3) := by decide +kernel
theorem dX6_move_12 : decode cX6_move 12 = .ok (.ifCond .ne 5, 3) := by decide +kernel
theorem dX6_move_15 : decode cX6_move 15 = .ok (.iconst (-1), 1) := by decide +kernel
theorem dX6_move_16 : decode cX6_move 16 = .ok (.ireturn, 1) := by decide +kernel
theorem dX6_move_17 : decode cX6_move 17 = .ok (.aload_n 0, 1) := by decide +kernel
theorem dX6_move_18 : decode cX6_move 18 = .ok (.getfield 59, 3) := by decide +kernel
theorem dX6_move_21 : decode cX6_move 21 = .ok (.iload_n 1, 1) := by decide +kernel
theorem dX6_move_22 : decode cX6_move 22 = .ok (.iaload, 1) := by decide +kernel
theorem dX6_move_23 : decode cX6_move 23 = .ok (.istore_n 3, 1) := by decide +kernel
theorem dX6_move_24 : decode cX6_move 24 = .ok (.iload_n 3, 1) := by decide +kernel
theorem dX6_move_25 : decode cX6_move 25 = .ok (.iload_n 2, 1) := by decide +kernel
theorem dX6_move_26 : decode cX6_move 26 = .ok (.if_icmp .ne 6, 3) := by decide +kernel
theorem dX6_move_29 : decode cX6_move 29 = .ok (.bipush (-4), 2) := by decide +kernel
theorem dX6_move_31 : decode cX6_move 31 = .ok (.ireturn, 1) := by decide +kernel
theorem dX6_move_32 : decode cX6_move 32 = .ok (.aload_n 0, 1) := by decide +kernel
theorem dX6_move_33 : decode cX6_move 33 = .ok (.getfield 173, 3) := by decide +kernel
theorem dX6_move_36 : decode cX6_move 36 = .ok (.bipush 40, 2) := by decide +kernel
theorem dX6_move_38 : decode cX6_move 38 = .ok (.if_icmp .ne 6, 3) := by decide +kernel
theorem dX6_move_41 : decode cX6_move 41 = .ok (.bipush (-2), 2) := by decide +kernel
theorem dX6_move_43 : decode cX6_move 43 = .ok (.ireturn, 1) := by decide +kernel
theorem dX6_move_44 : decode cX6_move 44 = .ok (.aload_n 0, 1) := by decide +kernel
theorem dX6_move_45 : decode cX6_move 45 = .ok (.iconst 1, 1) := by decide +kernel
theorem dX6_move_46 : decode cX6_move 46 = .ok (.iload_n 1, 1) := by decide +kernel
theorem dX6_move_47 : decode cX6_move 47 = .ok (.iload_n 2, 1) := by decide +kernel
theorem dX6_move_48 : decode cX6_move 48 = .ok (.invokevirtual 223, 3) := by decide +kernel
theorem dX6_move_51 : decode cX6_move 51 = .ok (.iload_n 3, 1) := by decide +kernel
theorem dX6_move_52 : decode cX6_move 52 = .ok (.ireturn, 1) := by decide +kernel
set_option maxRecDepth 20000 in
theorem ggX6_dyke_X6_isPlace : GoodIn wsX6_dyke wsX6_isPlace := goodIn_r _ [8, 9, 10, 7, 11] (by decide +kernel) (by decide +kernel)
set_option maxRecDepth 20000 in
theorem gX6_dyke_X6_isPlace : GoodIn wsX6_dyke (va_wsS RX6 229 yX6_isPlace wsX6_isPlace) := goodIn_app (goodIn_of _ (by decide +kernel)) ggX6_dyke_X6_isPlace
set_option maxRecDepth 20000 in
theorem ggX6_dyke_X6_does : GoodIn wsX6_dyke wsX6_does := goodIn_r _ [15, 16, 4, 17, 18, 19, 7, 20, 1, 21, 22, 23, 24, 2, 25, 26, 27, 28, 3, 29, 30, 31, 32, 33, 34, 35, 36, 37, 38, 39, 40, 41, 42, 43, 44, 45, 46, 47, 48, 49, 50, 51, 52, 53, 54, 55, 56, 57, 58, 59, 60, 61, 62, 63, 64, 65, 66, 67, 68, 69, 70, 71, 72, 73, 74, 75, 76, 77, 78, 79, 80, 81, 82, 83, 84] (by decide +kernel) (by decide +kernel)
set_option maxRecDepth 20000 in
theorem gX6_dyke_X6_does : GoodIn wsX6_dyke (wsV RX6 223 RX6 yX6_does wsX6_does) := goodIn_app (goodIn_of _ (by decide +kernel)) ggX6_dyke_X6_does
theorem dX6_dyke_0 : decode cX6_dyke 0 = .ok (.iload_n 1, 1) := by decide +kernel
theorem dX6_dyke_1 : decode cX6_dyke 1 = .ok (.invokestatic 229, 3) := by decide +kernel
theorem dX6_dyke_4 : decode cX6_dyke 4 = .ok (.ifCond .ne 5, 3) := by decide +kernel
theorem dX6_dyke_7 : decode cX6_dyke 7 = .ok (.iconst (-1), 1) := by decide +kernel
theorem dX6_dyke_8 : decode cX6_dyke 8 = .ok (.ireturn, 1) := by decide +kernel
theorem dX6_dyke_9 : decode cX6_dyke 9 = .ok (.aload_n 0, 1) := by decide +kernel
theorem dX6_dyke_10 : decode cX6_dyke 10 = .ok (.getfield 167, 3) := by decide +kernel
theorem dX6_dyke_13 : decode cX6_dyke 13 = .ok (.ifCond .eq 14, 3) := by decide +kernel
theorem dX6_dyke_16 : decode cX6_dyke 16 = .ok (.aload_n 0, 1) := by decide +kernel
theorem dX6_dyke_17 : decode cX6_dyke 17 = .ok (.getfield 65, 3) := by decide +kernel
theorem dX6_dyke_20 : decode cX6_dyke 20 = .ok (.iload_n 1, 1) := by decide +kernel
theorem dX6_dyke_21 : decode cX6_dyke 21 = .ok (.iaload, 1) := by decide +kernel
theorem dX6_dyke_22 : decode cX6_dyke 22 = .ok (.bipush 9, 2) := by decide +kernel
theorem dX6_dyke_24 : decode cX6_dyke 24 = .ok (.if_icmp .ne 6, 3) := by decide +kernel
theorem dX6_dyke_27 : decode cX6_dyke 27 = .ok (.bipush (-4), 2) := by decide +kernel
theorem dX6_dyke_29 : decode cX6_dyke 29 = .ok (.ireturn, 1) := by decide +kernel
theorem dX6_dyke_30 : decode cX6_dyke 30 = .ok (.aload_n 0, 1) := by decide +kernel
theorem dX6_dyke_31 : decode cX6_dyke 31 = .ok (.getfield 196, 3) := by decide +kernel
theorem dX6_dyke_34 : decode cX6_dyke 34 = .ok (.ifCond .ne 6, 3) := by decide +kernel
theorem dX6_dyke_37 : decode cX6_dyke 37 = .ok (.bipush (-6), 2) := by decide +kernel
theorem dX6_dyke_39 : decode cX6_dyke 39 = .ok (.ireturn, 1) := by decide +kernel
theorem dX6_dyke_40 : decode cX6_dyke 40 = .ok (.aload_n 0, 1) := by decide +kernel
theorem dX6_dyke_41 : decode cX6_dyke 41 = .ok (.getfield 173, 3) := by decide +kernel
theorem dX6_dyke_44 : decode cX6_dyke 44 = .ok (.bipush 40, 2) := by decide +kernel
theorem dX6_dyke_46 : decode cX6_dyke 46 = .ok (.if_icmp .ne 6, 3) := by decide +kernel
theorem dX6_dyke_49 : decode cX6_dyke 49 = .ok (.bipush (-2), 2) := by decide +kernel
theorem dX6_dyke_51 : decode cX6_dyke 51 = .ok (.ireturn, 1) := by decide +kernel
theorem dX6_dyke_52 : decode cX6_dyke 52 = .ok (.aload_n 0, 1) := by decide +kernel
theorem dX6_dyke_53 : decode cX6_dyke 53 = .ok (.iconst 2, 1) := by decide +kernel
theorem dX6_dyke_54 : decode cX6_dyke 54 = .ok (.iload_n 1, 1) := by decide +kernel
theorem dX6_dyke_55 : decode cX6_dyke 55 = .ok (.iconst 0, 1) := by decide +kernel
theorem dX6_dyke_56 : decode cX6_dyke 56 = .ok (.invokevirtual 223, 3) := by decide +kernel
theorem dX6_dyke_59 : decode cX6_dyke 59 = .ok (.aload_n 0, 1) := by decide +kernel
theorem dX6_dyke_60 : decode cX6_dyke 60 = .ok (.getfield 65, 3) := by decide +kernel
theorem dX6_dyke_63 : decode cX6_dyke 63 = .ok (.iload_n 1, 1) := by decide +kernel
theorem dX6_dyke_64 : decode cX6_dyke 64 = .ok (.iaload, 1) := by decide +kernel
theorem dX6_dyke_65 : decode cX6_dyke 65 = .ok (.ireturn, 1) := by decide +kernel
set_option maxRecDepth 20000 in
theorem ggX6_tuck_X6_isWoman : GoodIn wsX6_tuck wsX6_isWoman := goodIn_r _ [7, 8, 9, 10, 6, 11, 44, 45, 46, 47, 48, 49, 50, 51, 52, 53, 54, 55, 56, 57, 58, 59, 60, 61, 62, 63, 64, 65, 66, 67, 68, 69, 70, 71, 72, 73, 74, 75, 76, 77, 78, 79, 80, 81, 82, 83, 84, 85] (by decide +kernel) (by decide +kernel)
set_option maxRecDepth 20000 in
theorem gX6_tuck_X6_isWoman : GoodIn wsX6_tuck (wsV RX6 203 RX6 yX6_isWoman wsX6_isWoman) := goodIn_app (goodIn_of _ (by decide +kernel)) ggX6_tuck_X6_isWoman
set_option maxRecDepth 20000 in
theorem ggX6_tuck_X6_does : GoodIn wsX6_tuck wsX6_does := goodIn_r _ [15, 16, 2, 17, 18, 19, 6, 20, 8, 21, 22, 23, 24, 25, 26, 27, 1, 28, 29, 30, 31, 32, 33, 34, 35, 36, 37, 38, 39, 40, 41, 42, 43, 44, 45, 46, 47, 48, 49, 50, 51, 52, 53, 54, 55, 56, 57, 58, 59, 60, 61, 62, 63, 64, 65, 66, 67, 68, 69, 70, 71, 72, 73, 74, 75, 76, 77, 78, 79, 80, 81, 82, 83, 84, 85] (by decide +kernel) (by decide +kernel)
set_option maxRecDepth 20000 in
theorem gX6_tuck_X6_does : GoodIn wsX6_tuck (wsV RX6 223 RX6 yX6_does wsX6_does) := goodIn_app (goodIn_of _ (by decide +kernel)) ggX6_tuck_X6_does
theorem dX6_tuck_0 : decode cX6_tuck 0 = .ok (.aload_n 0, 1) := by decide +kernel
theorem dX6_tuck_1 : decode cX6_tuck 1 = .ok (.iload_n 1, 1) := by decide +kernel
theorem dX6_tuck_2 : decode cX6_tuck 2 = .ok (.invokevirtual 203, 3) := by decide +kernel
theorem dX6_tuck_5 : decode cX6_tuck 5 = .ok (.ifCond .ne 5, 3) := by decide +kernel
theorem dX6_tuck_8 : decode cX6_tuck 8 = .ok (.iconst (-1), 1) := by decide +kernel
theorem dX6_tuck_9 : decode cX6_tuck 9 = .ok (.ireturn, 1) := by decide +kernel
theorem dX6_tuck_10 : decode cX6_tuck 10 = .ok (.aload_n 0, 1) := by decide +kernel
theorem dX6_tuck_11 : decode cX6_tuck 11 = .ok (.getfield 62, 3) := by decide +kernel
theorem dX6_tuck_14 : decode cX6_tuck 14 = .ok (.iload_n 1, 1) := by decide +kernel
theorem dX6_tuck_15 : decode cX6_tuck 15 = .ok (.iaload, 1) := by decide +kernel
theorem dX6_tuck_16 : decode cX6_tuck 16 = .ok (.iconst 3, 1) := by decide +kernel
theorem dX6_tuck_17 : decode cX6_tuck 17 = .ok (.if_icmp .ne 6, 3) := by decide +kernel
theorem dX6_tuck_20 : decode cX6_tuck 20 = .ok (.bipush (-4), 2) := by decide +kernel
theorem dX6_tuck_22 : decode cX6_tuck 22 = .ok (.ireturn, 1) := by decide +kernel
theorem dX6_tuck_23 : decode cX6_tuck 23 = .ok (.aload_n 0, 1) := by decide +kernel
theorem dX6_tuck_24 : decode cX6_tuck 24 = .ok (.getfield 173, 3) := by decide +kernel
theorem dX6_tuck_27 : decode cX6_tuck 27 = .ok (.bipush 40, 2) := by decide +kernel
theorem dX6_tuck_29 : decode cX6_tuck 29 = .ok (.if_icmp .ne 6, 3) := by decide +kernel
theorem dX6_tuck_32 : decode cX6_tuck 32 = .ok (.bipush (-2), 2) := by decide +kernel
theorem dX6_tuck_34 : decode cX6_tuck 34 = .ok (.ireturn, 1) := by decide +kernel
theorem dX6_tuck_35 : decode cX6_tuck 35 = .ok (.aload_n 0, 1) := by decide +kernel
theorem dX6_tuck_36 : decode cX6_tuck 36 = .ok (.iconst 3, 1) := by decide +kernel
theorem dX6_tuck_37 : decode cX6_tuck 37 = .ok (.iload_n 1, 1) := by decide +kernel
theorem dX6_tuck_38 : decode cX6_tuck 38 = .ok (.iconst 0, 1) := by decide +kernel
theorem dX6_tuck_39 : decode cX6_tuck 39 = .ok (.invokevirtual 223, 3) := by decide +kernel
theorem dX6_tuck_42 : decode cX6_tuck 42 = .ok (.aload_n 0, 1) := by decide +kernel
theorem dX6_tuck_43 : decode cX6_tuck 43 = .ok (.getfield 62, 3) := by decide +kernel
theorem dX6_tuck_46 : decode cX6_tuck 46 = .ok (.iload_n 1, 1) := by decide +kernel
theorem dX6_tuck_47 : decode cX6_tuck 47 = .ok (.iaload, 1) := by decide +kernel
theorem dX6_tuck_48 : decode cX6_tuck 48 = .ok (.ireturn, 1) := by decide +kernel
set_option maxRecDepth 20000 in
theorem ggX6_undo_X6_in : GoodIn wsX6_undo wsX6_in := goodIn_r _ [5] (by decide +kernel) (by decide +kernel)
set_option maxRecDepth 20000 in
theorem gX6_undo_X6_in : GoodIn wsX6_undo (va_wsS RX6 109 yX6_in wsX6_in) := goodIn_app (goodIn_of _ (by decide +kernel)) ggX6_undo_X6_in
set_option maxRecDepth 20000 in
theorem ggX6_undo_X6_goThrough : GoodIn wsX6_undo wsX6_goThrough := goodIn_r _ [9, 10, 11, 12, 13, 14, 15, 16, 17, 18, 1, 19, 20, 21, 22, 4, 23, 24, 25, 26, 27, 28, 29, 30, 31, 32, 33, 34, 35, 36, 37, 38, 39, 40, 41, 42, 43, 44, 45, 46, 47, 48, 49, 50, 51, 52, 53, 54, 55, 56, 57, 58, 59, 60, 61, 62, 63, 64, 65, 66, 67, 68, 69, 70, 71, 72, 73, 74, 75, 76, 77, 78, 79, 80, 81, 82, 83, 84, 85] (by decide +kernel) (by decide +kernel)
set_option maxRecDepth 20000 in
theorem gX6_undo_X6_goThrough : GoodIn wsX6_undo (wsV RX6 176 RX6 yX6_goThrough wsX6_goThrough) := goodIn_app (goodIn_of _ (by decide +kernel)) ggX6_undo_X6_goThrough
theorem dX6_undo_0 : decode cX6_undo 0 = .ok (.iload_n 1, 1) := by decide +kernel
theorem dX6_undo_1 : decode cX6_undo 1 = .ok (.iconst 0, 1) := by decide +kernel
theorem dX6_undo_2 : decode cX6_undo 2 = .ok (.aload_n 0, 1) := by decide +kernel
theorem dX6_undo_3 : decode cX6_undo 3 = .ok (.getfield 173, 3) := by decide +kernel
theorem dX6_undo_6 : decode cX6_undo 6 = .ok (.invokestatic 109, 3) := by decide +kernel
theorem dX6_undo_9 : decode cX6_undo 9 = .ok (.ifCond .ne 5, 3) := by decide +kernel
theorem dX6_undo_12 : decode cX6_undo 12 = .ok (.iconst (-1), 1) := by decide +kernel
theorem dX6_undo_13 : decode cX6_undo 13 = .ok (.ireturn, 1) := by decide +kernel
theorem dX6_undo_14 : decode cX6_undo 14 = .ok (.aload_n 0, 1) := by decide +kernel
theorem dX6_undo_15 : decode cX6_undo 15 = .ok (.getfield 173, 3) := by decide +kernel
theorem dX6_undo_18 : decode cX6_undo 18 = .ok (.iload_n 1, 1) := by decide +kernel
theorem dX6_undo_19 : decode cX6_undo 19 = .ok (.isub, 1) := by decide +kernel
theorem dX6_undo_20 : decode cX6_undo 20 = .ok (.istore_n 2, 1) := by decide +kernel
theorem dX6_undo_21 : decode cX6_undo 21 = .ok (.aload_n 0, 1) := by decide +kernel
theorem dX6_undo_22 : decode cX6_undo 22 = .ok (.iload_n 1, 1) := by decide +kernel
theorem dX6_undo_23 : decode cX6_undo 23 = .ok (.putfield 173, 3) := by decide +kernel
theorem dX6_undo_26 : decode cX6_undo 26 = .ok (.aload_n 0, 1) := by decide +kernel
theorem dX6_undo_27 : decode cX6_undo 27 = .ok (.invokevirtual 176, 3) := by decide +kernel
theorem dX6_undo_30 : decode cX6_undo 30 = .ok (.iload_n 2, 1) := by decide +kernel
theorem dX6_undo_31 : decode cX6_undo 31 = .ok (.ireturn, 1) := by decide +kernel
set_option maxRecDepth 20000 in
theorem ggX6_keep_X6_in : GoodIn wsX6_keep wsX6_in := goodIn_r _ [9] (by decide +kernel) (by decide +kernel)
set_option maxRecDepth 20000 in
theorem gX6_keep_X6_in : GoodIn wsX6_keep (va_wsS RX6 109 yX6_in wsX6_in) := goodIn_app (goodIn_of _ (by decide +kernel)) ggX6_keep_X6_in
theorem dX6_keep_0 : decode cX6_keep 0 = .ok (.iload_n 1, 1) := by decide +kernel
theorem dX6_keep_1 : decode cX6_keep 1 = .ok (.iconst 0, 1) := by decide +kernel
theorem dX6_keep_2 : decode cX6_keep 2 = .ok (.iconst 2, 1) := by decide +kernel
theorem dX6_keep_3 : decode cX6_keep 3 = .ok (.invokestatic 109, 3) := by decide +kernel
theorem dX6_keep_6 : decode cX6_keep 6 = .ok (.ifCond .ne 5, 3) := by decide +kernel
theorem dX6_keep_9 : decode cX6_keep 9 = .ok (.iconst (-1), 1) := by decide +kernel
theorem dX6_keep_10 : decode cX6_keep 10 = .ok (.ireturn, 1) := by decide +kernel
theorem dX6_keep_11 : decode cX6_keep 11 = .ok (.aload_n 0, 1) := by decide +kernel
theorem dX6_keep_12 : decode cX6_keep 12 = .ok (.getfield 167, 3) := by decide +kernel
theorem dX6_keep_15 : decode cX6_keep 15 = .ok (.ifCond .ne 6, 3) := by decide +kernel
theorem dX6_keep_18 : decode cX6_keep 18 = .ok (.bipush (-4), 2) := by decide +kernel
theorem dX6_keep_20 : decode cX6_keep 20 = .ok (.ireturn, 1) := by decide +kernel
theorem dX6_keep_21 : decode cX6_keep 21 = .ok (.aload_n 0, 1) := by decide +kernel
theorem dX6_keep_22 : decode cX6_keep 22 = .ok (.getfield 83, 3) := by decide +kernel
theorem dX6_keep_25 : decode cX6_keep 25 = .ok (.iload_n 1, 1) := by decide +kernel
theorem dX6_keep_26 : decode cX6_keep 26 = .ok (.aload_n 0, 1) := by decide +kernel
theorem dX6_keep_27 : decode cX6_keep 27 = .ok (.getfield 173, 3) := by decide +kernel
theorem dX6_keep_30 : decode cX6_keep 30 = .ok (.iastore, 1) := by decide +kernel
theorem dX6_keep_31 : decode cX6_keep 31 = .ok (.iconst 0, 1) := by decide +kernel
theorem dX6_keep_32 : decode cX6_keep 32 = .ok (.istore_n 2, 1) := by decide +kernel
theorem dX6_keep_33 : decode cX6_keep 33 = .ok (.iload_n 2, 1) := by decide +kernel
theorem dX6_keep_34 : decode cX6_keep 34 = .ok (.bipush 120, 2) := by decide +kernel
theorem dX6_keep_36 : decode cX6_keep 36 = .ok (.if_icmp .ge 26, 3) := by decide +kernel
theorem dX6_keep_39 : decode cX6_keep 39 = .ok (.aload_n 0, 1) := by decide +kernel
theorem dX6_keep_40 : decode cX6_keep 40 = .ok (.getfield 86, 3) := by decide +kernel
theorem dX6_keep_43 : decode cX6_keep 43 = .ok (.bipush 120, 2) := by decide +kernel
theorem dX6_keep_45 : decode cX6_keep 45 = .ok (.iload_n 1, 1) := by decide +kernel
theorem dX6_keep_46 : decode cX6_keep 46 = .ok (.imul, 1) := by decide +kernel
theorem dX6_keep_47 : decode cX6_keep 47 = .ok (.iload_n 2, 1) := by decide +kernel
theorem dX6_keep_48 : decode cX6_keep 48 = .ok (.iadd, 1) := by decide +kernel
theorem dX6_keep_49 : decode cX6_keep 49 = .ok (.aload_n 0, 1) := by decide +kernel
theorem dX6_keep_50 : decode cX6_keep 50 = .ok (.getfield 80, 3) := by decide +kernel
theorem dX6_keep_53 : decode cX6_keep 53 = .ok (.iload_n 2, 1) := by decide +kernel
theorem dX6_keep_54 : decode cX6_keep 54 = .ok (.iaload, 1) := by decide +kernel
theorem dX6_keep_55 : decode cX6_keep 55 = .ok (.iastore, 1) := by decide +kernel
theorem dX6_keep_56 : decode cX6_keep 56 = .ok (.iinc 2 1, 3) := by decide +kernel
theorem dX6_keep_59 : decode cX6_keep 59 = .ok (.goto (-26), 3) := by decide +kernel
theorem dX6_keep_62 : decode cX6_keep 62 = .ok (.aload_n 0, 1) := by decide +kernel
theorem dX6_keep_63 : decode cX6_keep 63 = .ok (.getfield 173, 3) := by decide +kernel
theorem dX6_keep_66 : decode cX6_keep 66 = .ok (.ireturn, 1) := by decide +kernel
set_option maxRecDepth 20000 in
theorem ggX6_on_X6_in : GoodIn wsX6_on wsX6_in := goodIn_r _ [8] (by decide +kernel) (by decide +kernel)
set_option maxRecDepth 20000 in
theorem gX6_on_X6_in : GoodIn wsX6_on (va_wsS RX6 109 yX6_in wsX6_in) := goodIn_app (goodIn_of _ (by decide +kernel)) ggX6_on_X6_in
set_option maxRecDepth 20000 in
theorem ggX6_on_X6_refuse : GoodIn wsX6_on wsX6_refuse := goodIn_r _ [12, 13, 14, 52, 53, 54, 55, 56, 57, 58, 59, 60, 61, 62, 63, 64, 65, 66, 67, 68, 69, 70, 71, 72, 73, 74, 75, 76, 77, 78, 79, 80, 81, 82, 83, 84, 85, 86, 87, 88, 89, 90, 91, 92, 93] (by decide +kernel) (by decide +kernel)
set_option maxRecDepth 20000 in
theorem gX6_on_X6_refuse : GoodIn wsX6_on (wsV RX6 117 RX6 yX6_refuse wsX6_refuse) := goodIn_app (goodIn_of _ (by decide +kernel)) ggX6_on_X6_refuse
set_option maxRecDepth 20000 in
theorem ggX6_on_X6_goThrough : GoodIn wsX6_on wsX6_goThrough := goodIn_r _ [18, 19, 20, 21, 22, 23, 24, 25, 26, 27, 2, 3, 28, 29, 30, 7, 31, 32, 33, 34, 35, 36, 37, 38, 39, 40, 41, 42, 43, 44, 45, 46, 47, 48, 49, 50, 51, 52, 53, 54, 55, 56, 57, 58, 59, 60, 61, 62, 63, 64, 65, 66, 67, 68, 69, 70, 71, 72, 73, 74, 75, 76, 77, 78, 79, 80, 81, 82, 83, 84, 85, 86, 87, 88, 89, 90, 91, 92, 93] (by decide +kernel) (by decide +kernel)
set_option maxRecDepth 20000 in
theorem gX6_on_X6_goThrough : GoodIn wsX6_on (wsV RX6 176 RX6 yX6_goThrough wsX6_goThrough) := goodIn_app (goodIn_of _ (by decide +kernel)) ggX6_on_X6_goThrough
theorem dX6_on_0 : decode cX6_on 0 = .ok (.iload_n 1, 1) := by decide +kernel
theorem dX6_on_1 : decode cX6_on 1 = .ok (.iconst 0, 1) := by decide +kernel
theorem dX6_on_2 : decode cX6_on 2 = .ok (.iconst 2, 1) := by decide +kernel
theorem dX6_on_3 : decode cX6_on 3 = .ok (.invokestatic 109, 3) := by decide +kernel
theorem dX6_on_6 : decode cX6_on 6 = .ok (.ifCond .ne 5, 3) := by decide +kernel
theorem dX6_on_9 : decode cX6_on 9 = .ok (.iconst (-1), 1) := by decide +kernel
theorem dX6_on_10 : decode cX6_on 10 = .ok (.ireturn, 1) := by decide +kernel
theorem dX6_on_11 : decode cX6_on 11 = .ok (.aload_n 0, 1) := by decide +kernel
theorem dX6_on_12 : decode cX6_on 12 = .ok (.getfield 83, 3) := by decide +kernel
theorem dX6_on_15 : decode cX6_on 15 = .ok (.iload_n 1, 1) := by decide +kernel
theorem dX6_on_16 : decode cX6_on 16 = .ok (.iaload, 1) := by decide +kernel
theorem dX6_on_17 : decode cX6_on 17 = .ok (.ifCond .ge 9, 3) := by decide +kernel
theorem dX6_on_20 : decode cX6_on 20 = .ok (.aload_n 0, 1) := by decide +kernel
theorem dX6_on_21 : decode cX6_on 21 = .ok (.iconst 1, 1) := by decide +kernel
theorem dX6_on_22 : decode cX6_on 22 = .ok (.invokevirtual 117, 3) := by decide +kernel
theorem dX6_on_25 : decode cX6_on 25 = .ok (.ireturn, 1) := by decide +kernel
theorem dX6_on_26 : decode cX6_on 26 = .ok (.aload_n 0, 1) := by decide +kernel
theorem dX6_on_27 : decode cX6_on 27 = .ok (.aload_n 0, 1) := by decide +kernel
theorem dX6_on_28 : decode cX6_on 28 = .ok (.getfield 83, 3) := by decide +kernel
theorem dX6_on_31 : decode cX6_on 31 = .ok (.iload_n 1, 1) := by decide +kernel
theorem dX6_on_32 : decode cX6_on 32 = .ok (.iaload, 1) := by decide +kernel
theorem dX6_on_33 : decode cX6_on 33 = .ok (.putfield 173, 3) := by decide +kernel
theorem dX6_on_36 : decode cX6_on 36 = .ok (.iconst 0, 1) := by decide +kernel
theorem dX6_on_37 : decode cX6_on 37 = .ok (.istore_n 2, 1) := by decide +kernel
theorem dX6_on_38 : decode cX6_on 38 = .ok (.iload_n 2, 1) := by decide +kernel
theorem dX6_on_39 : decode cX6_on 39 = .ok (.bipush 120, 2) := by decide +kernel
theorem dX6_on_41 : decode cX6_on 41 = .ok (.if_icmp .ge 26, 3) := by decide +kernel
theorem dX6_on_44 : decode cX6_on 44 = .ok (.aload_n 0, 1) := by decide +kernel
theorem dX6_on_45 : decode cX6_on 45 = .ok (.getfield 80, 3) := by decide +kernel
theorem dX6_on_48 : decode cX6_on 48 = .ok (.iload_n 2, 1) := by decide +kernel
theorem dX6_on_49 : decode cX6_on 49 = .ok (.aload_n 0, 1) := by decide +kernel
theorem dX6_on_50 : decode cX6_on 50 = .ok (.getfield 86, 3) := by decide +kernel
theorem dX6_on_53 : decode cX6_on 53 = .ok (.bipush 120, 2) := by decide +kernel
theorem dX6_on_55 : decode cX6_on 55 = .ok (.iload_n 1, 1) := by decide +kernel
theorem dX6_on_56 : decode cX6_on 56 = .ok (.imul, 1) := by decide +kernel
theorem dX6_on_57 : decode cX6_on 57 = .ok (.iload_n 2, 1) := by decide +kernel
theorem dX6_on_58 : decode cX6_on 58 = .ok (.iadd, 1) := by decide +kernel
theorem dX6_on_59 : decode cX6_on 59 = .ok (.iaload, 1) := by decide +kernel
theorem dX6_on_60 : decode cX6_on 60 = .ok (.iastore, 1) := by decide +kernel
theorem dX6_on_61 : decode cX6_on 61 = .ok (.iinc 2 1, 3) := by decide +kernel
theorem dX6_on_64 : decode cX6_on 64 = .ok (.goto (-26), 3) := by decide +kernel
theorem dX6_on_67 : decode cX6_on 67 = .ok (.aload_n 0, 1) := by decide +kernel
theorem dX6_on_68 : decode cX6_on 68 = .ok (.invokevirtual 176, 3) := by decide +kernel
theorem dX6_on_71 : decode cX6_on 71 = .ok (.aload_n 0, 1) := by decide +kernel
theorem dX6_on_72 : decode cX6_on 72 = .ok (.getfield 173, 3) := by decide +kernel
theorem dX6_on_75 : decode cX6_on 75 = .ok (.ireturn, 1) := by decide +kernel
theorem dX6_all_0 : decode cX6_all 0 = .ok (.iconst 1, 1) := by decide +kernel
theorem dX6_all_1 : decode cX6_all 1 = .ok (.aload_n 0, 1) := by decide +kernel
theorem dX6_all_2 : decode cX6_all 2 = .ok (.getfield 167, 3) := by decide +kernel
theorem dX6_all_5 : decode cX6_all 5 = .ok (.ishl, 1) := by decide +kernel
theorem dX6_all_6 : decode cX6_all 6 = .ok (.iconst 1, 1) := by decide +kernel
theorem dX6_all_7 : decode cX6_all 7 = .ok (.isub, 1) := by decide +kernel
theorem dX6_all_8 : decode cX6_all 8 = .ok (.ireturn, 1) := by decide +kernel
theorem dX6_manyOf_0 : decode cX6_manyOf 0 = .ok (.iconst 0, 1) := by decide +kernel
theorem dX6_manyOf_1 : decode cX6_manyOf 1 = .ok (.istore_n 1, 1) := by decide +kernel
theorem dX6_manyOf_2 : decode cX6_manyOf 2 = .ok (.iconst 0, 1) := by decide +kernel
theorem dX6_manyOf_3 : decode cX6_manyOf 3 = .ok (.istore_n 2, 1) := by decide +kernel
theorem dX6_manyOf_4 : decode cX6_manyOf 4 = .ok (.iload_n 2, 1) := by decide +kernel
theorem dX6_manyOf_5 : decode cX6_manyOf 5 = .ok (.bipush 20, 2) := by decide +kernel
theorem dX6_manyOf_7 : decode cX6_manyOf 7 = .ok (.if_icmp .gt 17, 3) := by decide +kernel
theorem dX6_manyOf_10 : decode cX6_manyOf 10 = .ok (.iload_n 1, 1) := by decide +kernel
theorem dX6_manyOf_11 : decode cX6_manyOf 11 = .ok (.iload_n 0, 1) := by decide +kernel
theorem dX6_manyOf_12 : decode cX6_manyOf 12 = .ok (.iload_n 2, 1) := by decide +kernel
theorem dX6_manyOf_13 : decode cX6_manyOf 13 = .ok (.ishr, 1) := by decide +kernel
theorem dX6_manyOf_14 : decode cX6_manyOf 14 = .ok (.iconst 1, 1) := by decide +kernel
theorem dX6_manyOf_15 : decode cX6_manyOf 15 = .ok (.iand, 1) := by decide +kernel
theorem dX6_manyOf_16 : decode cX6_manyOf 16 = .ok (.iadd, 1) := by decide +kernel
theorem dX6_manyOf_17 : decode cX6_manyOf 17 = .ok (.istore_n 1, 1) := by decide +kernel
theorem dX6_manyOf_18 : decode cX6_manyOf 18 = .ok (.iinc 2 1, 3) := by decide +kernel
theorem dX6_manyOf_21 : decode cX6_manyOf 21 = .ok (.goto (-17), 3) := by decide +kernel
theorem dX6_manyOf_24 : decode cX6_manyOf 24 = .ok (.iload_n 1, 1) := by decide +kernel
theorem dX6_manyOf_25 : decode cX6_manyOf 25 = .ok (.ireturn, 1) := by decide +kernel
set_option maxRecDepth 20000 in
theorem ggX6_known_X6_hemThen : GoodIn wsX6_known wsX6_hemThen := goodIn_r _ [8, 9, 10, 11, 12, 13, 7, 14, 15, 16, 17, 18, 19, 20, 21, 22, 23, 24, 25, 26, 27, 28, 29, 30, 31, 32, 33, 34, 35, 36, 37, 38, 39, 40, 41, 42, 43, 44, 45, 46, 47, 48, 49, 50, 51, 52, 53, 54, 55, 56, 57, 58, 59, 60, 61, 62] (by decide +kernel) (by decide +kernel)
set_option maxRecDepth 20000 in
theorem gX6_known_X6_hemThen : GoodIn wsX6_known (wsV RX6 213 RX6 yX6_hemThen wsX6_hemThen) := goodIn_app (goodIn_of _ (by decide +kernel)) ggX6_known_X6_hemThen
theorem dX6_known_0 : decode cX6_known 0 = .ok (.iconst 0, 1) := by decide +kernel
theorem dX6_known_1 : decode cX6_known 1 = .ok (.istore_n 3, 1) := by decide +kernel
theorem dX6_known_2 : decode cX6_known 2 = .ok (.iconst 0, 1) := by decide +kernel
theorem dX6_known_3 : decode cX6_known 3 = .ok (.istore 4, 2) := by decide +kernel
theorem dX6_known_5 : decode cX6_known 5 = .ok (.iload 4, 2) := by decide +kernel
theorem dX6_known_7 : decode cX6_known 7 = .ok (.bipush 20, 2) := by decide +kernel
theorem dX6_known_9 : decode cX6_known 9 = .ok (.if_icmp .gt 98, 3) := by decide +kernel
theorem dX6_known_12 : decode cX6_known 12 = .ok (.iconst 1, 1) := by decide +kernel
theorem dX6_known_13 : decode cX6_known 13 = .ok (.istore 5, 2) := by decide +kernel
theorem dX6_known_15 : decode cX6_known 15 = .ok (.iconst 0, 1) := by decide +kernel
theorem dX6_known_16 : decode cX6_known 16 = .ok (.istore 6, 2) := by decide +kernel
theorem dX6_known_18 : decode cX6_known 18 = .ok (.iload 6, 2) := by decide +kernel
theorem dX6_known_20 : decode cX6_known 20 = .ok (.aload_n 0, 1) := by decide +kernel
theorem dX6_known_21 : decode cX6_known 21 = .ok (.getfield 167, 3) := by decide +kernel
theorem dX6_known_24 : decode cX6_known 24 = .ok (.if_icmp .ge 61, 3) := by decide +kernel
theorem dX6_known_27 : decode cX6_known 27 = .ok (.iload 5, 2) := by decide +kernel
theorem dX6_known_29 : decode cX6_known 29 = .ok (.ifCond .eq 47, 3) := by decide +kernel
theorem dX6_known_32 : decode cX6_known 32 = .ok (.iload_n 1, 1) := by decide +kernel
theorem dX6_known_33 : decode cX6_known 33 = .ok (.iload 6, 2) := by decide +kernel
theorem dX6_known_35 : decode cX6_known 35 = .ok (.ishr, 1) := by decide +kernel
theorem dX6_known_36 : decode cX6_known 36 = .ok (.iconst 1, 1) := by decide +kernel
theorem dX6_known_37 : decode cX6_known 37 = .ok (.iand, 1) := by decide +kernel
theorem dX6_known_38 : decode cX6_known 38 = .ok (.ifCond .eq 34, 3) := by decide +kernel
theorem dX6_known_41 : decode cX6_known 41 = .ok (.aload_n 0, 1) := by decide +kernel
theorem dX6_known_42 : decode cX6_known 42 = .ok (.aload_n 0, 1) := by decide +kernel
theorem dX6_known_43 : decode cX6_known 43 = .ok (.getfield 44, 3) := by decide +kernel
theorem dX6_known_46 : decode cX6_known 46 = .ok (.iload 6, 2) := by decide +kernel
theorem dX6_known_48 : decode cX6_known 48 = .ok (.iaload, 1) := by decide +kernel
theorem dX6_known_49 : decode cX6_known 49 = .ok (.iload 6, 2) := by decide +kernel
theorem dX6_known_51 : decode cX6_known 51 = .ok (.iload_n 2, 1) := by decide +kernel
theorem dX6_known_52 : decode cX6_known 52 = .ok (.iload 4, 2) := by decide +kernel
theorem dX6_known_54 : decode cX6_known 54 = .ok (.invokevirtual 213, 3) := by decide +kernel
theorem dX6_known_57 : decode cX6_known 57 = .ok (.aload_n 0, 1) := by decide +kernel
theorem dX6_known_58 : decode cX6_known 58 = .ok (.getfield 71, 3) := by decide +kernel
theorem dX6_known_61 : decode cX6_known 61 = .ok (.bipush 6, 2) := by decide +kernel
theorem dX6_known_63 : decode cX6_known 63 = .ok (.iload_n 2, 1) := by decide +kernel
theorem dX6_known_64 : decode cX6_known 64 = .ok (.imul, 1) := by decide +kernel
theorem dX6_known_65 : decode cX6_known 65 = .ok (.iload 6, 2) := by decide +kernel
theorem dX6_known_67 : decode cX6_known 67 = .ok (.iadd, 1) := by decide +kernel
theorem dX6_known_68 : decode cX6_known 68 = .ok (.iaload, 1) := by decide +kernel
theorem dX6_known_69 : decode cX6_known 69 = .ok (.if_icmp .ne 7, 3) := by decide +kernel
theorem dX6_known_72 : decode cX6_known 72 = .ok (.iconst 1, 1) := by decide +kernel
theorem dX6_known_73 : decode cX6_known 73 = .ok (.goto 4, 3) := by decide +kernel
theorem dX6_known_76 : decode cX6_known 76 = .ok (.iconst 0, 1) := by decide +kernel
theorem dX6_known_77 : decode cX6_known 77 = .ok (.istore 5, 2) := by decide +kernel
theorem dX6_known_79 : decode cX6_known 79 = .ok (.iinc 6 1, 3) := by decide +kernel
theorem dX6_known_82 : decode cX6_known 82 = .ok (.goto (-64), 3) := by decide +kernel
theorem dX6_known_85 : decode cX6_known 85 = .ok (.iload_n 3, 1) := by decide +kernel
theorem dX6_known_86 : decode cX6_known 86 = .ok (.iload 5, 2) := by decide +kernel
theorem dX6_known_88 : decode cX6_known 88 = .ok (.ifCond .eq 10, 3) := by decide +kernel
theorem dX6_known_91 : decode cX6_known 91 = .ok (.iconst 1, 1) := by decide +kernel
theorem dX6_known_92 : decode cX6_known 92 = .ok (.iload 4, 2) := by decide +kernel
theorem dX6_known_94 : decode cX6_known 94 = .ok (.ishl, 1) := by decide +kernel
theorem dX6_known_95 : decode cX6_known 95 = .ok (.goto 4, 3) := by decide +kernel
theorem dX6_known_98 : decode cX6_known 98 = .ok (.iconst 0, 1) := by decide +kernel
theorem dX6_known_99 : decode cX6_known 99 = .ok (.ior, 1) := by decide +kernel
theorem dX6_known_100 : decode cX6_known 100 = .ok (.istore_n 3, 1) := by decide +kernel
theorem dX6_known_101 : decode cX6_known 101 = .ok (.iinc 4 1, 3) := by decide +kernel
theorem dX6_known_104 : decode cX6_known 104 = .ok (.goto (-99), 3) := by decide +kernel
theorem dX6_known_107 : decode cX6_known 107 = .ok (.iload_n 3, 1) := by decide +kernel
theorem dX6_known_108 : decode cX6_known 108 = .ok (.ireturn, 1) := by decide +kernel
set_option maxRecDepth 20000 in
theorem ggX6_know_X6_all : GoodIn wsX6_know wsX6_all := goodIn_r _ [5, 6, 45, 46, 47, 48, 49, 50, 51, 52, 53, 54, 55, 56, 57, 58, 59, 60, 61, 62, 63, 64, 65, 66, 67, 68, 69, 70, 71, 72, 73, 74, 75, 76, 77, 78, 79, 80, 81, 82, 83, 84, 85, 86] (by decide +kernel) (by decide +kernel)
set_option maxRecDepth 20000 in
theorem gX6_know_X6_all : GoodIn wsX6_know (wsV RX6 232 RX6 yX6_all wsX6_all) := goodIn_app (goodIn_of _ (by decide +kernel)) ggX6_know_X6_all
set_option maxRecDepth 20000 in
theorem ggX6_know_X6_in : GoodIn wsX6_know wsX6_in := goodIn_r _ [9] (by decide +kernel) (by decide +kernel)
set_option maxRecDepth 20000 in
theorem gX6_know_X6_in : GoodIn wsX6_know (va_wsS RX6 109 yX6_in wsX6_in) := goodIn_app (goodIn_of _ (by decide +kernel)) ggX6_know_X6_in
set_option maxRecDepth 20000 in
theorem ggX6_know_X6_isYear : GoodIn wsX6_know wsX6_isYear := goodIn_r _ [13, 14, 7, 8, 4, 9, 45, 46, 47, 48, 49, 50, 51, 52, 53, 54, 55, 56, 57, 58, 59, 60, 61, 62, 63, 64, 65, 66, 67, 68, 69, 70, 71, 72, 73, 74, 75, 76, 77, 78, 79, 80, 81, 82, 83, 84, 85, 86] (by decide +kernel) (by decide +kernel)
set_option maxRecDepth 20000 in
theorem gX6_know_X6_isYear : GoodIn wsX6_know (wsV RX6 217 RX6 yX6_isYear wsX6_isYear) := goodIn_app (goodIn_of _ (by decide +kernel)) ggX6_know_X6_isYear
set_option maxRecDepth 20000 in
theorem ggX6_know_X6_known : GoodIn wsX6_know wsX6_known := goodIn_r _ [18, 6, 19, 20, 21, 22, 23, 4, 24, 25, 26, 27, 28, 29, 30, 31, 32, 33, 34, 35, 36, 45, 46, 47, 48, 49, 50, 51, 52, 53, 54, 55, 56, 57, 58, 59, 60, 61, 62, 63, 64, 65, 66, 67, 68, 69, 70, 71, 72, 73, 74, 75, 76, 77, 78, 79, 80, 81, 82, 83, 84, 85, 86] (by decide +kernel) (by decide +kernel)
set_option maxRecDepth 20000 in
theorem gX6_know_X6_known : GoodIn wsX6_know (wsV RX6 235 RX6 yX6_known wsX6_known) := goodIn_app (goodIn_of _ (by decide +kernel)) ggX6_know_X6_known
set_option maxRecDepth 20000 in
theorem ggX6_know_X6_manyOf : GoodIn wsX6_know wsX6_manyOf := goodIn_r _ [39] (by decide +kernel) (by decide +kernel)
set_option maxRecDepth 20000 in
theorem gX6_know_X6_manyOf : GoodIn wsX6_know (va_wsS RX6 238 yX6_manyOf wsX6_manyOf) := goodIn_app (goodIn_of _ (by decide +kernel)) ggX6_know_X6_manyOf
set_option maxRecDepth 20000 in
theorem ggX6_know_X6_tellsAsked : GoodIn wsX6_know wsX6_tellsAsked := goodIn_r _ [43, 44, 45, 46, 47, 48, 49, 50, 51, 52, 53, 54, 55, 56, 57, 58, 59, 60, 61, 62, 63, 64, 65, 66, 67, 68, 69, 70, 71, 72, 73, 74, 75, 76, 77, 78, 79, 80, 81, 82, 83, 84, 85, 86] (by decide +kernel) (by decide +kernel)
set_option maxRecDepth 20000 in
theorem gX6_know_X6_tellsAsked : GoodIn wsX6_know (wsV RX6 125 RX6 yX6_tellsAsked wsX6_tellsAsked) := goodIn_app (goodIn_of _ (by decide +kernel)) ggX6_know_X6_tellsAsked
theorem dX6_know_0 : decode cX6_know 0 = .ok (.iload_n 1, 1) := by decide +kernel
theorem dX6_know_1 : decode cX6_know 1 = .ok (.iconst 0, 1) := by decide +kernel
theorem dX6_know_2 : decode cX6_know 2 = .ok (.aload_n 0, 1) := by decide +kernel
theorem dX6_know_3 : decode cX6_know 3 = .ok (.invokevirtual 232, 3) := by decide +kernel
theorem dX6_know_6 : decode cX6_know 6 = .ok (.invokestatic 109, 3) := by decide +kernel
theorem dX6_know_9 : decode cX6_know 9 = .ok (.ifCond .eq 11, 3) := by decide +kernel
theorem dX6_know_12 : decode cX6_know 12 = .ok (.aload_n 0, 1) := by decide +kernel
theorem dX6_know_13 : decode cX6_know 13 = .ok (.iload_n 2, 1) := by decide +kernel
theorem dX6_know_14 : decode cX6_know 14 = .ok (.invokevirtual 217, 3) := by decide +kernel
theorem dX6_know_17 : decode cX6_know 17 = .ok (.ifCond .ne 5, 3) := by decide +kernel
theorem dX6_know_20 : decode cX6_know 20 = .ok (.iconst (-1), 1) := by decide +kernel
theorem dX6_know_21 : decode cX6_know 21 = .ok (.ireturn, 1) := by decide +kernel
theorem dX6_know_22 : decode cX6_know 22 = .ok (.aload_n 0, 1) := by decide +kernel
theorem dX6_know_23 : decode cX6_know 23 = .ok (.iload_n 1, 1) := by decide +kernel
theorem dX6_know_24 : decode cX6_know 24 = .ok (.iload_n 2, 1) := by decide +kernel
theorem dX6_know_25 : decode cX6_know 25 = .ok (.invokevirtual 235, 3) := by decide +kernel
theorem dX6_know_28 : decode cX6_know 28 = .ok (.istore_n 3, 1) := by decide +kernel
theorem dX6_know_29 : decode cX6_know 29 = .ok (.aload_n 0, 1) := by decide +kernel
theorem dX6_know_30 : decode cX6_know 30 = .ok (.iload_n 3, 1) := by decide +kernel
theorem dX6_know_31 : decode cX6_know 31 = .ok (.invokestatic 238, 3) := by decide +kernel
theorem dX6_know_34 : decode cX6_know 34 = .ok (.invokevirtual 125, 3) := by decide +kernel
theorem dX6_know_37 : decode cX6_know 37 = .ok (.pop, 1) := by decide +kernel
theorem dX6_know_38 : decode cX6_know 38 = .ok (.iload_n 3, 1) := by decide +kernel
theorem dX6_know_39 : decode cX6_know 39 = .ok (.ireturn, 1) := by decide +kernel
set_option maxRecDepth 20000 in
theorem ggX6_high_X6_isYear : GoodIn wsX6_high wsX6_isYear := goodIn_r _ [5, 6, 7, 8, 4, 9, 40, 41, 42, 43, 44, 45, 46, 47, 48, 49, 50, 51, 52, 53, 54, 55, 56, 57, 58, 59, 60, 61, 62, 63, 64, 65, 66, 67, 68, 69, 70, 71, 72, 73, 74, 75, 76, 77, 78, 79, 80, 81] (by decide +kernel) (by decide +kernel)
set_option maxRecDepth 20000 in
theorem gX6_high_X6_isYear : GoodIn wsX6_high (wsV RX6 217 RX6 yX6_isYear wsX6_isYear) := goodIn_app (goodIn_of _ (by decide +kernel)) ggX6_high_X6_isYear
set_option maxRecDepth 20000 in
theorem ggX6_high_X6_all : GoodIn wsX6_high wsX6_all := goodIn_r _ [13, 14, 40, 41, 42, 43, 44, 45, 46, 47, 48, 49, 50, 51, 52, 53, 54, 55, 56, 57, 58, 59, 60, 61, 62, 63, 64, 65, 66, 67, 68, 69, 70, 71, 72, 73, 74, 75, 76, 77, 78, 79, 80, 81] (by decide +kernel) (by decide +kernel)
set_option maxRecDepth 20000 in
theorem gX6_high_X6_all : GoodIn wsX6_high (wsV RX6 232 RX6 yX6_all wsX6_all) := goodIn_app (goodIn_of _ (by decide +kernel)) ggX6_high_X6_all
set_option maxRecDepth 20000 in
theorem ggX6_high_X6_known : GoodIn wsX6_high wsX6_known := goodIn_r _ [18, 14, 19, 20, 21, 22, 23, 4, 24, 25, 26, 27, 28, 29, 30, 31, 32, 33, 34, 35, 36, 40, 41, 42, 43, 44, 45, 46, 47, 48, 49, 50, 51, 52, 53, 54, 55, 56, 57, 58, 59, 60, 61, 62, 63, 64, 65, 66, 67, 68, 69, 70, 71, 72, 73, 74, 75, 76, 77, 78, 79, 80, 81] (by decide +kernel) (by decide +kernel)
set_option maxRecDepth 20000 in
theorem gX6_high_X6_known : GoodIn wsX6_high (wsV RX6 235 RX6 yX6_known wsX6_known) := goodIn_app (goodIn_of _ (by decide +kernel)) ggX6_high_X6_known
set_option maxRecDepth 20000 in
theorem ggX6_high_X6_manyOf : GoodIn wsX6_high wsX6_manyOf := goodIn_r _ [39] (by decide +kernel) (by decide +kernel)
set_option maxRecDepth 20000 in
theorem gX6_high_X6_manyOf : GoodIn wsX6_high (va_wsS RX6 238 yX6_manyOf wsX6_manyOf) := goodIn_app (goodIn_of _ (by decide +kernel)) ggX6_high_X6_manyOf
theorem dX6_high_0 : decode cX6_high 0 = .ok (.aload_n 0, 1) := by decide +kernel
theorem dX6_high_1 : decode cX6_high 1 = .ok (.iload_n 1, 1) := by decide +kernel
theorem dX6_high_2 : decode cX6_high 2 = .ok (.invokevirtual 217, 3) := by decide +kernel
theorem dX6_high_5 : decode cX6_high 5 = .ok (.ifCond .ne 5, 3) := by decide +kernel
theorem dX6_high_8 : decode cX6_high 8 = .ok (.iconst (-1), 1) := by decide +kernel
theorem dX6_high_9 : decode cX6_high 9 = .ok (.ireturn, 1) := by decide +kernel
theorem dX6_high_10 : decode cX6_high 10 = .ok (.aload_n 0, 1) := by decide +kernel
theorem dX6_high_11 : decode cX6_high 11 = .ok (.aload_n 0, 1) := by decide +kernel
theorem dX6_high_12 : decode cX6_high 12 = .ok (.invokevirtual 232, 3) := by decide +kernel
theorem dX6_high_15 : decode cX6_high 15 = .ok (.iload_n 1, 1) := by decide +kernel
theorem dX6_high_16 : decode cX6_high 16 = .ok (.invokevirtual 235, 3) := by decide +kernel
theorem dX6_high_19 : decode cX6_high 19 = .ok (.istore_n 2, 1) := by decide +kernel
theorem dX6_high_20 : decode cX6_high 20 = .ok (.iconst 0, 1) := by decide +kernel
theorem dX6_high_21 : decode cX6_high 21 = .ok (.istore_n 3, 1) := by decide +kernel
theorem dX6_high_22 : decode cX6_high 22 = .ok (.iload_n 2, 1) := by decide +kernel
theorem dX6_high_23 : decode cX6_high 23 = .ok (.iload_n 3, 1) := by decide +kernel
theorem dX6_high_24 : decode cX6_high 24 = .ok (.ishr, 1) := by decide +kernel
theorem dX6_high_25 : decode cX6_high 25 = .ok (.iconst 1, 1) := by decide +kernel
theorem dX6_high_26 : decode cX6_high 26 = .ok (.iand, 1) := by decide +kernel
theorem dX6_high_27 : decode cX6_high 27 = .ok (.ifCond .ne 9, 3) := by decide +kernel
theorem dX6_high_30 : decode cX6_high 30 = .ok (.iinc 3 1, 3) := by decide +kernel
theorem dX6_high_33 : decode cX6_high 33 = .ok (.goto (-11), 3) := by decide +kernel
theorem dX6_high_36 : decode cX6_high 36 = .ok (.iload_n 2, 1) := by decide +kernel
theorem dX6_high_37 : decode cX6_high 37 = .ok (.invokestatic 238, 3) := by decide +kernel
theorem dX6_high_40 : decode cX6_high 40 = .ok (.iconst 1, 1) := by decide +kernel
theorem dX6_high_41 : decode cX6_high 41 = .ok (.if_icmp .ne 7, 3) := by decide +kernel
theorem dX6_high_44 : decode cX6_high 44 = .ok (.iload_n 3, 1) := by decide +kernel
theorem dX6_high_45 : decode cX6_high 45 = .ok (.goto 5, 3) := by decide +kernel
theorem dX6_high_48 : decode cX6_high 48 = .ok (.bipush (-9), 2) := by decide +kernel
theorem dX6_high_50 : decode cX6_high 50 = .ok (.ireturn, 1) := by decide +kernel
set_option maxRecDepth 20000 in
theorem ggX6_partBy_X6_hemThen : GoodIn wsX6_partBy wsX6_hemThen := goodIn_r _ [6, 7, 8, 9, 10, 11, 5, 12, 13, 14, 15, 16, 17, 18, 19, 20, 21, 22, 23, 24, 25, 26, 27, 28, 29, 30, 31, 32, 33, 34, 35, 36, 37, 38, 39, 40, 41, 42, 43, 44, 45, 46, 47, 48, 49, 50, 51, 52, 53, 54, 55, 56, 57, 58, 59, 60] (by decide +kernel) (by decide +kernel)
set_option maxRecDepth 20000 in
theorem gX6_partBy_X6_hemThen : GoodIn wsX6_partBy (wsV RX6 213 RX6 yX6_hemThen wsX6_hemThen) := goodIn_app (goodIn_of _ (by decide +kernel)) ggX6_partBy_X6_hemThen
theorem dX6_partBy_0 : decode cX6_partBy 0 = .ok (.iconst 0, 1) := by decide +kernel
theorem dX6_partBy_1 : decode cX6_partBy 1 = .ok (.istore 4, 2) := by decide +kernel
theorem dX6_partBy_3 : decode cX6_partBy 3 = .ok (.iconst 0, 1) := by decide +kernel
theorem dX6_partBy_4 : decode cX6_partBy 4 = .ok (.istore 5, 2) := by decide +kernel
theorem dX6_partBy_6 : decode cX6_partBy 6 = .ok (.iload 5, 2) := by decide +kernel
theorem dX6_partBy_8 : decode cX6_partBy 8 = .ok (.bipush 10, 2) := by decide +kernel
theorem dX6_partBy_10 : decode cX6_partBy 10 = .ok (.if_icmp .gt 83, 3) := by decide +kernel
theorem dX6_partBy_13 : decode cX6_partBy 13 = .ok (.iconst 0, 1) := by decide +kernel
theorem dX6_partBy_14 : decode cX6_partBy 14 = .ok (.istore 6, 2) := by decide +kernel
theorem dX6_partBy_16 : decode cX6_partBy 16 = .ok (.iconst 0, 1) := by decide +kernel
theorem dX6_partBy_17 : decode cX6_partBy 17 = .ok (.istore 7, 2) := by decide +kernel
theorem dX6_partBy_19 : decode cX6_partBy 19 = .ok (.iload 7, 2) := by decide +kernel
theorem dX6_partBy_21 : decode cX6_partBy 21 = .ok (.bipush 20, 2) := by decide +kernel
theorem dX6_partBy_23 : decode cX6_partBy 23 = .ok (.if_icmp .gt 48, 3) := by decide +kernel
theorem dX6_partBy_26 : decode cX6_partBy 26 = .ok (.iload 6, 2) := by decide +kernel
theorem dX6_partBy_28 : decode cX6_partBy 28 = .ok (.iload_n 3, 1) := by decide +kernel
theorem dX6_partBy_29 : decode cX6_partBy 29 = .ok (.iload 7, 2) := by decide +kernel
theorem dX6_partBy_31 : decode cX6_partBy 31 = .ok (.ishr, 1) := by decide +kernel
theorem dX6_partBy_32 : decode cX6_partBy 32 = .ok (.iconst 1, 1) := by decide +kernel
theorem dX6_partBy_33 : decode cX6_partBy 33 = .ok (.iand, 1) := by decide +kernel
theorem dX6_partBy_34 : decode cX6_partBy 34 = .ok (.iconst 1, 1) := by decide +kernel
theorem dX6_partBy_35 : decode cX6_partBy 35 = .ok (.if_icmp .ne 26, 3) := by decide +kernel
theorem dX6_partBy_38 : decode cX6_partBy 38 = .ok (.aload_n 0, 1) := by decide +kernel
theorem dX6_partBy_39 : decode cX6_partBy 39 = .ok (.aload_n 0, 1) := by decide +kernel
theorem dX6_partBy_40 : decode cX6_partBy 40 = .ok (.getfield 44, 3) := by decide +kernel
theorem dX6_partBy_43 : decode cX6_partBy 43 = .ok (.iload_n 1, 1) := by decide +kernel
theorem dX6_partBy_44 : decode cX6_partBy 44 = .ok (.iaload, 1) := by decide +kernel
theorem dX6_partBy_45 : decode cX6_partBy 45 = .ok (.iload_n 1, 1) := by decide +kernel
theorem dX6_partBy_46 : decode cX6_partBy 46 = .ok (.iload_n 2, 1) := by decide +kernel
theorem dX6_partBy_47 : decode cX6_partBy 47 = .ok (.iload 7, 2) := by decide +kernel
theorem dX6_partBy_49 : decode cX6_partBy 49 = .ok (.invokevirtual 213, 3) := by decide +kernel
theorem dX6_partBy_52 : decode cX6_partBy 52 = .ok (.iload 5, 2) := by decide +kernel
theorem dX6_partBy_54 : decode cX6_partBy 54 = .ok (.if_icmp .ne 7, 3) := by decide +kernel
theorem dX6_partBy_57 : decode cX6_partBy 57 = .ok (.iconst 1, 1) := by decide +kernel
theorem dX6_partBy_58 : decode cX6_partBy 58 = .ok (.goto 4, 3) := by decide +kernel
theorem dX6_partBy_61 : decode cX6_partBy 61 = .ok (.iconst 0, 1) := by decide +kernel
theorem dX6_partBy_62 : decode cX6_partBy 62 = .ok (.iadd, 1) := by decide +kernel
theorem dX6_partBy_63 : decode cX6_partBy 63 = .ok (.istore 6, 2) := by decide +kernel
theorem dX6_partBy_65 : decode cX6_partBy 65 = .ok (.iinc 7 1, 3) := by decide +kernel
theorem dX6_partBy_68 : decode cX6_partBy 68 = .ok (.goto (-49), 3) := by decide +kernel
theorem dX6_partBy_71 : decode cX6_partBy 71 = .ok (.iload 6, 2) := by decide +kernel
theorem dX6_partBy_73 : decode cX6_partBy 73 = .ok (.iload 4, 2) := by decide +kernel
theorem dX6_partBy_75 : decode cX6_partBy 75 = .ok (.if_icmp .le 8, 3) := by decide +kernel
theorem dX6_partBy_78 : decode cX6_partBy 78 = .ok (.iload 6, 2) := by decide +kernel
theorem dX6_partBy_80 : decode cX6_partBy 80 = .ok (.goto 5, 3) := by decide +kernel
theorem dX6_partBy_83 : decode cX6_partBy 83 = .ok (.iload 4, 2) := by decide +kernel
theorem dX6_partBy_85 : decode cX6_partBy 85 = .ok (.istore 4, 2) := by decide +kernel
theorem dX6_partBy_87 : decode cX6_partBy 87 = .ok (.iinc 5 1, 3) := by decide +kernel
theorem dX6_partBy_90 : decode cX6_partBy 90 = .ok (.goto (-84), 3) := by decide +kernel
theorem dX6_partBy_93 : decode cX6_partBy 93 = .ok (.iload 4, 2) := by decide +kernel
theorem dX6_partBy_95 : decode cX6_partBy 95 = .ok (.ireturn, 1) := by decide +kernel
set_option maxRecDepth 20000 in
theorem ggX6_look_X6_all : GoodIn wsX6_look wsX6_all := goodIn_r _ [7, 1, 42, 43, 44, 45, 46, 47, 48, 49, 50, 51, 52, 53, 54, 55, 56, 57, 58, 59, 60, 61, 62, 63, 64, 65, 66, 67, 68, 69, 70, 71, 72, 73, 74, 75, 76, 77, 78, 79, 80, 81, 82, 83] (by decide +kernel) (by decide +kernel)
set_option maxRecDepth 20000 in
theorem gX6_look_X6_all : GoodIn wsX6_look (wsV RX6 232 RX6 yX6_all wsX6_all) := goodIn_app (goodIn_of _ (by decide +kernel)) ggX6_look_X6_all
set_option maxRecDepth 20000 in
theorem ggX6_look_X6_in : GoodIn wsX6_look wsX6_in := goodIn_r _ [10] (by decide +kernel) (by decide +kernel)
set_option maxRecDepth 20000 in
theorem gX6_look_X6_in : GoodIn wsX6_look (va_wsS RX6 109 yX6_in wsX6_in) := goodIn_app (goodIn_of _ (by decide +kernel)) ggX6_look_X6_in
set_option maxRecDepth 20000 in
theorem ggX6_look_X6_isYear : GoodIn wsX6_look wsX6_isYear := goodIn_r _ [14, 15, 8, 9, 6, 10, 42, 43, 44, 45, 46, 47, 48, 49, 50, 51, 52, 53, 54, 55, 56, 57, 58, 59, 60, 61, 62, 63, 64, 65, 66, 67, 68, 69, 70, 71, 72, 73, 74, 75, 76, 77, 78, 79, 80, 81, 82, 83] (by decide +kernel) (by decide +kernel)
set_option maxRecDepth 20000 in
theorem gX6_look_X6_isYear : GoodIn wsX6_look (wsV RX6 217 RX6 yX6_isYear wsX6_isYear) := goodIn_app (goodIn_of _ (by decide +kernel)) ggX6_look_X6_isYear
set_option maxRecDepth 20000 in
theorem ggX6_look_X6_known : GoodIn wsX6_look wsX6_known := goodIn_r _ [19, 1, 20, 21, 22, 23, 24, 6, 25, 26, 27, 28, 29, 30, 31, 32, 33, 34, 35, 36, 37, 42, 43, 44, 45, 46, 47, 48, 49, 50, 51, 52, 53, 54, 55, 56, 57, 58, 59, 60, 61, 62, 63, 64, 65, 66, 67, 68, 69, 70, 71, 72, 73, 74, 75, 76, 77, 78, 79, 80, 81, 82, 83] (by decide +kernel) (by decide +kernel)
set_option maxRecDepth 20000 in
theorem gX6_look_X6_known : GoodIn wsX6_look (wsV RX6 235 RX6 yX6_known wsX6_known) := goodIn_app (goodIn_of _ (by decide +kernel)) ggX6_look_X6_known
set_option maxRecDepth 20000 in
theorem ggX6_look_X6_partBy : GoodIn wsX6_look wsX6_partBy := goodIn_r _ [41, 20, 22, 23, 24, 6, 25, 26, 27, 28, 29, 30, 31, 32, 33, 34, 35, 36, 37, 42, 43, 44, 45, 46, 47, 48, 49, 50, 51, 52, 53, 54, 55, 56, 57, 58, 59, 60, 61, 62, 63, 64, 65, 66, 67, 68, 69, 70, 71, 72, 73, 74, 75, 76, 77, 78, 79, 80, 81, 82, 83] (by decide +kernel) (by decide +kernel)
set_option maxRecDepth 20000 in
theorem gX6_look_X6_partBy : GoodIn wsX6_look (wsV RX6 241 RX6 yX6_partBy wsX6_partBy) := goodIn_app (goodIn_of _ (by decide +kernel)) ggX6_look_X6_partBy
theorem dX6_look_0 : decode cX6_look 0 = .ok (.iload_n 1, 1) := by decide +kernel
theorem dX6_look_1 : decode cX6_look 1 = .ok (.iconst 0, 1) := by decide +kernel
theorem dX6_look_2 : decode cX6_look 2 = .ok (.aload_n 0, 1) := by decide +kernel
theorem dX6_look_3 : decode cX6_look 3 = .ok (.invokevirtual 232, 3) := by decide +kernel
theorem dX6_look_6 : decode cX6_look 6 = .ok (.invokestatic 109, 3) := by decide +kernel
theorem dX6_look_9 : decode cX6_look 9 = .ok (.ifCond .eq 11, 3) := by decide +kernel
theorem dX6_look_12 : decode cX6_look 12 = .ok (.aload_n 0, 1) := by decide +kernel
theorem dX6_look_13 : decode cX6_look 13 = .ok (.iload_n 2, 1) := by decide +kernel
theorem dX6_look_14 : decode cX6_look 14 = .ok (.invokevirtual 217, 3) := by decide +kernel
theorem dX6_look_17 : decode cX6_look 17 = .ok (.ifCond .ne 5, 3) := by decide +kernel
theorem dX6_look_20 : decode cX6_look 20 = .ok (.iconst (-1), 1) := by decide +kernel
theorem dX6_look_21 : decode cX6_look 21 = .ok (.ireturn, 1) := by decide +kernel
theorem dX6_look_22 : decode cX6_look 22 = .ok (.aload_n 0, 1) := by decide +kernel
theorem dX6_look_23 : decode cX6_look 23 = .ok (.iload_n 1, 1) := by decide +kernel
theorem dX6_look_24 : decode cX6_look 24 = .ok (.iload_n 2, 1) := by decide +kernel
theorem dX6_look_25 : decode cX6_look 25 = .ok (.invokevirtual 235, 3) := by decide +kernel
theorem dX6_look_28 : decode cX6_look 28 = .ok (.istore_n 3, 1) := by decide +kernel
theorem dX6_look_29 : decode cX6_look 29 = .ok (.bipush (-9), 2) := by decide +kernel
theorem dX6_look_31 : decode cX6_look 31 = .ok (.istore 4, 2) := by decide +kernel
theorem dX6_look_33 : decode cX6_look 33 = .ok (.iconst 0, 1) := by decide +kernel
theorem dX6_look_34 : decode cX6_look 34 = .ok (.istore 5, 2) := by decide +kernel
theorem dX6_look_36 : decode cX6_look 36 = .ok (.iconst 0, 1) := by decide +kernel
theorem dX6_look_37 : decode cX6_look 37 = .ok (.istore 6, 2) := by decide +kernel
theorem dX6_look_39 : decode cX6_look 39 = .ok (.iload 6, 2) := by decide +kernel
theorem dX6_look_41 : decode cX6_look 41 = .ok (.aload_n 0, 1) := by decide +kernel
theorem dX6_look_42 : decode cX6_look 42 = .ok (.getfield 167, 3) := by decide +kernel
theorem dX6_look_45 : decode cX6_look 45 = .ok (.if_icmp .ge 64, 3) := by decide +kernel
theorem dX6_look_48 : decode cX6_look 48 = .ok (.iload_n 1, 1) := by decide +kernel
theorem dX6_look_49 : decode cX6_look 49 = .ok (.iload 6, 2) := by decide +kernel
theorem dX6_look_51 : decode cX6_look 51 = .ok (.ishr, 1) := by decide +kernel
theorem dX6_look_52 : decode cX6_look 52 = .ok (.iconst 1, 1) := by decide +kernel
theorem dX6_look_53 : decode cX6_look 53 = .ok (.iand, 1) := by decide +kernel
theorem dX6_look_54 : decode cX6_look 54 = .ok (.iconst 1, 1) := by decide +kernel
theorem dX6_look_55 : decode cX6_look 55 = .ok (.if_icmp .ne 7, 3) := by decide +kernel
theorem dX6_look_58 : decode cX6_look 58 = .ok (.iconst 0, 1) := by decide +kernel
theorem dX6_look_59 : decode cX6_look 59 = .ok (.goto 11, 3) := by decide +kernel
theorem dX6_look_62 : decode cX6_look 62 = .ok (.aload_n 0, 1) := by decide +kernel
theorem dX6_look_63 : decode cX6_look 63 = .ok (.iload 6, 2) := by decide +kernel
theorem dX6_look_65 : decode cX6_look 65 = .ok (.iload_n 2, 1) := by decide +kernel
theorem dX6_look_66 : decode cX6_look 66 = .ok (.iload_n 3, 1) := by decide +kernel
theorem dX6_look_67 : decode cX6_look 67 = .ok (.invokevirtual 241, 3) := by decide +kernel
theorem dX6_look_70 : decode cX6_look 70 = .ok (.istore 7, 2) := by decide +kernel
theorem dX6_look_72 : decode cX6_look 72 = .ok (.iload_n 1, 1) := by decide +kernel
theorem dX6_look_73 : decode cX6_look 73 = .ok (.iload 6, 2) := by decide +kernel
theorem dX6_look_75 : decode cX6_look 75 = .ok (.ishr, 1) := by decide +kernel
theorem dX6_look_76 : decode cX6_look 76 = .ok (.iconst 1, 1) := by decide +kernel
theorem dX6_look_77 : decode cX6_look 77 = .ok (.iand, 1) := by decide +kernel
theorem dX6_look_78 : decode cX6_look 78 = .ok (.ifCond .ne 25, 3) := by decide +kernel
theorem dX6_look_81 : decode cX6_look 81 = .ok (.iload 4, 2) := by decide +kernel
theorem dX6_look_83 : decode cX6_look 83 = .ok (.bipush (-9), 2) := by decide +kernel
theorem dX6_look_85 : decode cX6_look 85 = .ok (.if_icmp .eq 10, 3) := by decide +kernel
theorem dX6_look_88 : decode cX6_look 88 = .ok (.iload 7, 2) := by decide +kernel
theorem dX6_look_90 : decode cX6_look 90 = .ok (.iload 5, 2) := by decide +kernel
theorem dX6_look_92 : decode cX6_look 92 = .ok (.if_icmp .ge 11, 3) := by decide +kernel
theorem dX6_look_95 : decode cX6_look 95 = .ok (.iload 6, 2) := by decide +kernel
theorem dX6_look_97 : decode cX6_look 97 = .ok (.istore 4, 2) := by decide +kernel
theorem dX6_look_99 : decode cX6_look 99 = .ok (.iload 7, 2) := by decide +kernel
theorem dX6_look_101 : decode cX6_look 101 = .ok (.istore 5, 2) := by decide +kernel
theorem dX6_look_103 : decode cX6_look 103 = .ok (.iinc 6 1, 3) := by decide +kernel
theorem dX6_look_106 : decode cX6_look 106 = .ok (.goto (-67), 3) := by decide +kernel
theorem dX6_look_109 : decode cX6_look 109 = .ok (.iload 4, 2) := by decide +kernel
theorem dX6_look_111 : decode cX6_look 111 = .ok (.bipush (-9), 2) := by decide +kernel
theorem dX6_look_113 : decode cX6_look 113 = .ok (.if_icmp .eq 9, 3) := by decide +kernel
theorem dX6_look_116 : decode cX6_look 116 = .ok (.aload_n 0, 1) := by decide +kernel
theorem dX6_look_117 : decode cX6_look 117 = .ok (.iload 5, 2) := by decide +kernel
theorem dX6_look_119 : decode cX6_look 119 = .ok (.putfield 103, 3) := by decide +kernel
theorem dX6_look_122 : decode cX6_look 122 = .ok (.iload 4, 2) := by decide +kernel
theorem dX6_look_124 : decode cX6_look 124 = .ok (.ireturn, 1) := by decide +kernel
set_option maxRecDepth 20000 in
theorem ggX6_looks_X6_isYear : GoodIn wsX6_looks wsX6_isYear := goodIn_r _ [6, 7, 8, 9, 5, 10, 41, 42, 43, 44, 45, 46, 47, 48, 49, 50, 51, 52, 53, 54, 55, 56, 57, 58, 59, 60, 61, 62, 63, 64, 65, 66, 67, 68, 69, 70, 71, 72, 73, 74, 75, 76, 77, 78, 79, 80, 81, 82] (by decide +kernel) (by decide +kernel)
set_option maxRecDepth 20000 in
theorem gX6_looks_X6_isYear : GoodIn wsX6_looks (wsV RX6 217 RX6 yX6_isYear wsX6_isYear) := goodIn_app (goodIn_of _ (by decide +kernel)) ggX6_looks_X6_isYear
set_option maxRecDepth 20000 in
theorem ggX6_looks_X6_all : GoodIn wsX6_looks wsX6_all := goodIn_r _ [14, 15, 41, 42, 43, 44, 45, 46, 47, 48, 49, 50, 51, 52, 53, 54, 55, 56, 57, 58, 59, 60, 61, 62, 63, 64, 65, 66, 67, 68, 69, 70, 71, 72, 73, 74, 75, 76, 77, 78, 79, 80, 81, 82] (by decide +kernel) (by decide +kernel)
set_option maxRecDepth 20000 in
theorem gX6_looks_X6_all : GoodIn wsX6_looks (wsV RX6 232 RX6 yX6_all wsX6_all) := goodIn_app (goodIn_of _ (by decide +kernel)) ggX6_looks_X6_all
set_option maxRecDepth 20000 in
theorem ggX6_looks_X6_known : GoodIn wsX6_looks wsX6_known := goodIn_r _ [19, 15, 20, 21, 22, 23, 24, 5, 25, 26, 27, 28, 29, 30, 31, 32, 33, 34, 35, 36, 37, 41, 42, 43, 44, 45, 46, 47, 48, 49, 50, 51, 52, 53, 54, 55, 56, 57, 58, 59, 60, 61, 62, 63, 64, 65, 66, 67, 68, 69, 70, 71, 72, 73, 74, 75, 76, 77, 78, 79, 80, 81, 82] (by decide +kernel) (by decide +kernel)
set_option maxRecDepth 20000 in
theorem gX6_looks_X6_known : GoodIn wsX6_looks (wsV RX6 235 RX6 yX6_known wsX6_known) := goodIn_app (goodIn_of _ (by decide +kernel)) ggX6_looks_X6_known
set_option maxRecDepth 20000 in
theorem ggX6_looks_X6_manyOf : GoodIn wsX6_looks wsX6_manyOf := goodIn_r _ [40] (by decide +kernel) (by decide +kernel)
set_option maxRecDepth 20000 in
theorem gX6_looks_X6_manyOf : GoodIn wsX6_looks (va_wsS RX6 238 yX6_manyOf wsX6_manyOf) := goodIn_app (goodIn_of _ (by decide +kernel)) ggX6_looks_X6_manyOf
theorem dX6_looks_0 : decode cX6_looks 0 = .ok (.aload_n 0, 1) := by decide +kernel
theorem dX6_looks_1 : decode cX6_looks 1 = .ok (.iload_n 1, 1) := by decide +kernel
theorem dX6_looks_2 : decode cX6_looks 2 = .ok (.invokevirtual 217, 3) := by decide +kernel
theorem dX6_looks_5 : decode cX6_looks 5 = .ok (.ifCond .ne 5, 3) := by decide +kernel
theorem dX6_looks_8 : decode cX6_looks 8 = .ok (.iconst (-1), 1) := by decide +kernel
theorem dX6_looks_9 : decode cX6_looks 9 = .ok (.ireturn, 1) := by decide +kernel
theorem dX6_looks_10 : decode cX6_looks 10 = .ok (.aload_n 0, 1) := by decide +kernel
theorem dX6_looks_11 : decode cX6_looks 11 = .ok (.aload_n 0, 1) := by decide +kernel
theorem dX6_looks_12 : decode cX6_looks 12 = .ok (.invokevirtual 232, 3) := by decide +kernel
theorem dX6_looks_15 : decode cX6_looks 15 = .ok (.iload_n 1, 1) := by decide +kernel
theorem dX6_looks_16 : decode cX6_looks 16 = .ok (.invokevirtual 235, 3) := by decide +kernel
theorem dX6_looks_19 : decode cX6_looks 19 = .ok (.istore_n 2, 1) := by decide +kernel
theorem dX6_looks_20 : decode cX6_looks 20 = .ok (.aload_n 0, 1) := by decide +kernel
theorem dX6_looks_21 : decode cX6_looks 21 = .ok (.invokevirtual 232, 3) := by decide +kernel
theorem dX6_looks_24 : decode cX6_looks 24 = .ok (.istore_n 3, 1) := by decide +kernel
theorem dX6_looks_25 : decode cX6_looks 25 = .ok (.aload_n 0, 1) := by decide +kernel
theorem dX6_looks_26 : decode cX6_looks 26 = .ok (.invokevirtual 232, 3) := by decide +kernel
