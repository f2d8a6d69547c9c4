theorem dX6_looks_29 : decode cX6_looks 29 = .ok (.istore 4, 2) := by decide +kernel
theorem dX6_looks_31 : decode cX6_looks 31 = .ok (.iload 4, 2) := by decide +kernel
theorem dX6_looks_33 : decode cX6_looks 33 = .ok (.ifCond .lt 39, 3) := by decide +kernel
theorem dX6_looks_36 : decode cX6_looks 36 = .ok (.iload 4, 2) := by decide +kernel
theorem dX6_looks_38 : decode cX6_looks 38 = .ok (.invokestatic 238, 3) := by decide +kernel
theorem dX6_looks_41 : decode cX6_looks 41 = .ok (.iload_n 3, 1) := by decide +kernel
theorem dX6_looks_42 : decode cX6_looks 42 = .ok (.invokestatic 238, 3) := by decide +kernel
theorem dX6_looks_45 : decode cX6_looks 45 = .ok (.if_icmp .gt 19, 3) := by decide +kernel
theorem dX6_looks_48 : decode cX6_looks 48 = .ok (.aload_n 0, 1) := by decide +kernel
theorem dX6_looks_49 : decode cX6_looks 49 = .ok (.iload 4, 2) := by decide +kernel
theorem dX6_looks_51 : decode cX6_looks 51 = .ok (.iload_n 1, 1) := by decide +kernel
theorem dX6_looks_52 : decode cX6_looks 52 = .ok (.invokevirtual 235, 3) := by decide +kernel
theorem dX6_looks_55 : decode cX6_looks 55 = .ok (.iload_n 2, 1) := by decide +kernel
theorem dX6_looks_56 : decode cX6_looks 56 = .ok (.if_icmp .ne 8, 3) := by decide +kernel
theorem dX6_looks_59 : decode cX6_looks 59 = .ok (.iload 4, 2) := by decide +kernel
theorem dX6_looks_61 : decode cX6_looks 61 = .ok (.goto 4, 3) := by decide +kernel
theorem dX6_looks_64 : decode cX6_looks 64 = .ok (.iload_n 3, 1) := by decide +kernel
theorem dX6_looks_65 : decode cX6_looks 65 = .ok (.istore_n 3, 1) := by decide +kernel
theorem dX6_looks_66 : decode cX6_looks 66 = .ok (.iinc 4 (-1), 3) := by decide +kernel
theorem dX6_looks_69 : decode cX6_looks 69 = .ok (.goto (-38), 3) := by decide +kernel
theorem dX6_looks_72 : decode cX6_looks 72 = .ok (.aload_n 0, 1) := by decide +kernel
theorem dX6_looks_73 : decode cX6_looks 73 = .ok (.iload_n 3, 1) := by decide +kernel
theorem dX6_looks_74 : decode cX6_looks 74 = .ok (.putfield 103, 3) := by decide +kernel
theorem dX6_looks_77 : decode cX6_looks 77 = .ok (.iload_n 3, 1) := by decide +kernel
theorem dX6_looks_78 : decode cX6_looks 78 = .ok (.invokestatic 238, 3) := by decide +kernel
theorem dX6_looks_81 : decode cX6_looks 81 = .ok (.ireturn, 1) := by decide +kernel
set_option maxRecDepth 20000 in
theorem ggX6_line_X6_isYear : GoodIn wsX6_line wsX6_isYear := goodIn_r _ [8, 9, 10, 11, 7, 12, 13, 14, 15, 16, 17, 18, 19, 20, 21, 22, 23, 24, 25, 26, 27, 28, 29, 30, 31, 32, 33, 34, 35, 36, 37, 38, 39, 40, 41, 42, 43, 44, 45, 46, 47, 48, 49, 50, 51, 52, 53, 54] (by decide +kernel) (by decide +kernel)
set_option maxRecDepth 20000 in
theorem gX6_line_X6_isYear : GoodIn wsX6_line (wsV RX6 217 RX6 yX6_isYear wsX6_isYear) := goodIn_app (goodIn_of _ (by decide +kernel)) ggX6_line_X6_isYear
theorem dX6_line_0 : decode cX6_line 0 = .ok (.aload_n 0, 1) := by decide +kernel
theorem dX6_line_1 : decode cX6_line 1 = .ok (.iload_n 1, 1) := by decide +kernel
theorem dX6_line_2 : decode cX6_line 2 = .ok (.invokevirtual 217, 3) := by decide +kernel
theorem dX6_line_5 : decode cX6_line 5 = .ok (.ifCond .ne 5, 3) := by decide +kernel
theorem dX6_line_8 : decode cX6_line 8 = .ok (.iconst (-1), 1) := by decide +kernel
theorem dX6_line_9 : decode cX6_line 9 = .ok (.ireturn, 1) := by decide +kernel
theorem dX6_line_10 : decode cX6_line 10 = .ok (.iconst 0, 1) := by decide +kernel
theorem dX6_line_11 : decode cX6_line 11 = .ok (.istore_n 2, 1) := by decide +kernel
theorem dX6_line_12 : decode cX6_line 12 = .ok (.iconst 0, 1) := by decide +kernel
theorem dX6_line_13 : decode cX6_line 13 = .ok (.istore_n 3, 1) := by decide +kernel
theorem dX6_line_14 : decode cX6_line 14 = .ok (.iconst 0, 1) := by decide +kernel
theorem dX6_line_15 : decode cX6_line 15 = .ok (.istore 4, 2) := by decide +kernel
theorem dX6_line_17 : decode cX6_line 17 = .ok (.iload 4, 2) := by decide +kernel
theorem dX6_line_19 : decode cX6_line 19 = .ok (.aload_n 0, 1) := by decide +kernel
theorem dX6_line_20 : decode cX6_line 20 = .ok (.getfield 167, 3) := by decide +kernel
theorem dX6_line_23 : decode cX6_line 23 = .ok (.if_icmp .ge 93, 3) := by decide +kernel
theorem dX6_line_26 : decode cX6_line 26 = .ok (.iconst 0, 1) := by decide +kernel
theorem dX6_line_27 : decode cX6_line 27 = .ok (.istore 5, 2) := by decide +kernel
theorem dX6_line_29 : decode cX6_line 29 = .ok (.iload 5, 2) := by decide +kernel
theorem dX6_line_31 : decode cX6_line 31 = .ok (.iload 4, 2) := by decide +kernel
theorem dX6_line_33 : decode cX6_line 33 = .ok (.if_icmp .ge 44, 3) := by decide +kernel
theorem dX6_line_36 : decode cX6_line 36 = .ok (.iload_n 2, 1) := by decide +kernel
theorem dX6_line_37 : decode cX6_line 37 = .ok (.aload_n 0, 1) := by decide +kernel
theorem dX6_line_38 : decode cX6_line 38 = .ok (.getfield 71, 3) := by decide +kernel
theorem dX6_line_41 : decode cX6_line 41 = .ok (.bipush 6, 2) := by decide +kernel
theorem dX6_line_43 : decode cX6_line 43 = .ok (.iload_n 1, 1) := by decide +kernel
theorem dX6_line_44 : decode cX6_line 44 = .ok (.imul, 1) := by decide +kernel
theorem dX6_line_45 : decode cX6_line 45 = .ok (.iload 5, 2) := by decide +kernel
theorem dX6_line_47 : decode cX6_line 47 = .ok (.iadd, 1) := by decide +kernel
theorem dX6_line_48 : decode cX6_line 48 = .ok (.iaload, 1) := by decide +kernel
theorem dX6_line_49 : decode cX6_line 49 = .ok (.aload_n 0, 1) := by decide +kernel
theorem dX6_line_50 : decode cX6_line 50 = .ok (.getfield 71, 3) := by decide +kernel
theorem dX6_line_53 : decode cX6_line 53 = .ok (.bipush 6, 2) := by decide +kernel
theorem dX6_line_55 : decode cX6_line 55 = .ok (.iload_n 1, 1) := by decide +kernel
theorem dX6_line_56 : decode cX6_line 56 = .ok (.imul, 1) := by decide +kernel
theorem dX6_line_57 : decode cX6_line 57 = .ok (.iload 4, 2) := by decide +kernel
theorem dX6_line_59 : decode cX6_line 59 = .ok (.iadd, 1) := by decide +kernel
theorem dX6_line_60 : decode cX6_line 60 = .ok (.iaload, 1) := by decide +kernel
theorem dX6_line_61 : decode cX6_line 61 = .ok (.if_icmp .le 7, 3) := by decide +kernel
theorem dX6_line_64 : decode cX6_line 64 = .ok (.iconst 1, 1) := by decide +kernel
theorem dX6_line_65 : decode cX6_line 65 = .ok (.goto 4, 3) := by decide +kernel
theorem dX6_line_68 : decode cX6_line 68 = .ok (.iconst 0, 1) := by decide +kernel
theorem dX6_line_69 : decode cX6_line 69 = .ok (.iadd, 1) := by decide +kernel
theorem dX6_line_70 : decode cX6_line 70 = .ok (.istore_n 2, 1) := by decide +kernel
theorem dX6_line_71 : decode cX6_line 71 = .ok (.iinc 5 1, 3) := by decide +kernel
theorem dX6_line_74 : decode cX6_line 74 = .ok (.goto (-45), 3) := by decide +kernel
theorem dX6_line_77 : decode cX6_line 77 = .ok (.aload_n 0, 1) := by decide +kernel
theorem dX6_line_78 : decode cX6_line 78 = .ok (.getfield 71, 3) := by decide +kernel
theorem dX6_line_81 : decode cX6_line 81 = .ok (.bipush 6, 2) := by decide +kernel
theorem dX6_line_83 : decode cX6_line 83 = .ok (.iload_n 1, 1) := by decide +kernel
theorem dX6_line_84 : decode cX6_line 84 = .ok (.imul, 1) := by decide +kernel
theorem dX6_line_85 : decode cX6_line 85 = .ok (.iload 4, 2) := by decide +kernel
theorem dX6_line_87 : decode cX6_line 87 = .ok (.iadd, 1) := by decide +kernel
theorem dX6_line_88 : decode cX6_line 88 = .ok (.iaload, 1) := by decide +kernel
theorem dX6_line_89 : decode cX6_line 89 = .ok (.aload_n 0, 1) := by decide +kernel
theorem dX6_line_90 : decode cX6_line 90 = .ok (.getfield 71, 3) := by decide +kernel
theorem dX6_line_93 : decode cX6_line 93 = .ok (.bipush 6, 2) := by decide +kernel
theorem dX6_line_95 : decode cX6_line 95 = .ok (.iload_n 1, 1) := by decide +kernel
theorem dX6_line_96 : decode cX6_line 96 = .ok (.imul, 1) := by decide +kernel
theorem dX6_line_97 : decode cX6_line 97 = .ok (.iload_n 3, 1) := by decide +kernel
theorem dX6_line_98 : decode cX6_line 98 = .ok (.iadd, 1) := by decide +kernel
theorem dX6_line_99 : decode cX6_line 99 = .ok (.iaload, 1) := by decide +kernel
theorem dX6_line_100 : decode cX6_line 100 = .ok (.if_icmp .ge 8, 3) := by decide +kernel
theorem dX6_line_103 : decode cX6_line 103 = .ok (.iload 4, 2) := by decide +kernel
theorem dX6_line_105 : decode cX6_line 105 = .ok (.goto 4, 3) := by decide +kernel
theorem dX6_line_108 : decode cX6_line 108 = .ok (.iload_n 3, 1) := by decide +kernel
theorem dX6_line_109 : decode cX6_line 109 = .ok (.istore_n 3, 1) := by decide +kernel
theorem dX6_line_110 : decode cX6_line 110 = .ok (.iinc 4 1, 3) := by decide +kernel
theorem dX6_line_113 : decode cX6_line 113 = .ok (.goto (-96), 3) := by decide +kernel
theorem dX6_line_116 : decode cX6_line 116 = .ok (.aload_n 0, 1) := by decide +kernel
theorem dX6_line_117 : decode cX6_line 117 = .ok (.iload_n 3, 1) := by decide +kernel
theorem dX6_line_118 : decode cX6_line 118 = .ok (.putfield 103, 3) := by decide +kernel
theorem dX6_line_121 : decode cX6_line 121 = .ok (.iload_n 2, 1) := by decide +kernel
theorem dX6_line_122 : decode cX6_line 122 = .ok (.ireturn, 1) := by decide +kernel
set_option maxRecDepth 20000 in
theorem ggX6_judge_X6_isWoman : GoodIn wsX6_judge wsX6_isWoman := goodIn_r _ [7, 8, 9, 10, 6, 11, 21, 22, 23, 24, 25, 26, 27, 28, 29, 30, 31, 32, 33, 34, 35, 36, 37, 38, 39, 40, 41, 42, 43, 44, 45, 46, 47, 48, 49, 50, 51, 52, 53, 54, 55, 56, 57, 58, 59, 60, 61, 62] (by decide +kernel) (by decide +kernel)
set_option maxRecDepth 20000 in
theorem gX6_judge_X6_isWoman : GoodIn wsX6_judge (wsV RX6 203 RX6 yX6_isWoman wsX6_isWoman) := goodIn_app (goodIn_of _ (by decide +kernel)) ggX6_judge_X6_isWoman
set_option maxRecDepth 20000 in
theorem ggX6_judge_X6_isRow : GoodIn wsX6_judge wsX6_isRow := goodIn_r _ [14, 9, 10, 6, 11] (by decide +kernel) (by decide +kernel)
set_option maxRecDepth 20000 in
theorem gX6_judge_X6_isRow : GoodIn wsX6_judge (va_wsS RX6 113 yX6_isRow wsX6_isRow) := goodIn_app (goodIn_of _ (by decide +kernel)) ggX6_judge_X6_isRow
set_option maxRecDepth 20000 in
theorem ggX6_judge_X6_refuse : GoodIn wsX6_judge wsX6_refuse := goodIn_r _ [18, 19, 20, 21, 22, 23, 24, 25, 26, 27, 28, 29, 30, 31, 32, 33, 34, 35, 36, 37, 38, 39, 40, 41, 42, 43, 44, 45, 46, 47, 48, 49, 50, 51, 52, 53, 54, 55, 56, 57, 58, 59, 60, 61, 62] (by decide +kernel) (by decide +kernel)
set_option maxRecDepth 20000 in
theorem gX6_judge_X6_refuse : GoodIn wsX6_judge (wsV RX6 117 RX6 yX6_refuse wsX6_refuse) := goodIn_app (goodIn_of _ (by decide +kernel)) ggX6_judge_X6_refuse
set_option maxRecDepth 20000 in
theorem ggX6_judge_X6_in : GoodIn wsX6_judge wsX6_in := goodIn_r _ [11] (by decide +kernel) (by decide +kernel)
set_option maxRecDepth 20000 in
theorem gX6_judge_X6_in : GoodIn wsX6_judge (va_wsS RX6 109 yX6_in wsX6_in) := goodIn_app (goodIn_of _ (by decide +kernel)) ggX6_judge_X6_in
theorem dX6_judge_0 : decode cX6_judge 0 = .ok (.aload_n 0, 1) := by decide +kernel
theorem dX6_judge_1 : decode cX6_judge 1 = .ok (.iload_n 1, 1) := by decide +kernel
theorem dX6_judge_2 : decode cX6_judge 2 = .ok (.invokevirtual 203, 3) := by decide +kernel
theorem dX6_judge_5 : decode cX6_judge 5 = .ok (.ifCond .eq 10, 3) := by decide +kernel
theorem dX6_judge_8 : decode cX6_judge 8 = .ok (.iload_n 2, 1) := by decide +kernel
theorem dX6_judge_9 : decode cX6_judge 9 = .ok (.invokestatic 113, 3) := by decide +kernel
theorem dX6_judge_12 : decode cX6_judge 12 = .ok (.ifCond .ne 5, 3) := by decide +kernel
theorem dX6_judge_15 : decode cX6_judge 15 = .ok (.iconst (-1), 1) := by decide +kernel
theorem dX6_judge_16 : decode cX6_judge 16 = .ok (.ireturn, 1) := by decide +kernel
theorem dX6_judge_17 : decode cX6_judge 17 = .ok (.aload_n 0, 1) := by decide +kernel
theorem dX6_judge_18 : decode cX6_judge 18 = .ok (.getfield 16, 3) := by decide +kernel
theorem dX6_judge_21 : decode cX6_judge 21 = .ok (.iload_n 2, 1) := by decide +kernel
theorem dX6_judge_22 : decode cX6_judge 22 = .ok (.iaload, 1) := by decide +kernel
theorem dX6_judge_23 : decode cX6_judge 23 = .ok (.ifCond .ge 9, 3) := by decide +kernel
theorem dX6_judge_26 : decode cX6_judge 26 = .ok (.aload_n 0, 1) := by decide +kernel
theorem dX6_judge_27 : decode cX6_judge 27 = .ok (.iconst 1, 1) := by decide +kernel
theorem dX6_judge_28 : decode cX6_judge 28 = .ok (.invokevirtual 117, 3) := by decide +kernel
theorem dX6_judge_31 : decode cX6_judge 31 = .ok (.ireturn, 1) := by decide +kernel
theorem dX6_judge_32 : decode cX6_judge 32 = .ok (.aload_n 0, 1) := by decide +kernel
theorem dX6_judge_33 : decode cX6_judge 33 = .ok (.getfield 16, 3) := by decide +kernel
theorem dX6_judge_36 : decode cX6_judge 36 = .ok (.iload_n 2, 1) := by decide +kernel
theorem dX6_judge_37 : decode cX6_judge 37 = .ok (.iaload, 1) := by decide +kernel
theorem dX6_judge_38 : decode cX6_judge 38 = .ok (.iconst 2, 1) := by decide +kernel
theorem dX6_judge_39 : decode cX6_judge 39 = .ok (.irem, 1) := by decide +kernel
theorem dX6_judge_40 : decode cX6_judge 40 = .ok (.iconst 1, 1) := by decide +kernel
theorem dX6_judge_41 : decode cX6_judge 41 = .ok (.if_icmp .ne 9, 3) := by decide +kernel
theorem dX6_judge_44 : decode cX6_judge 44 = .ok (.aload_n 0, 1) := by decide +kernel
theorem dX6_judge_45 : decode cX6_judge 45 = .ok (.iconst 5, 1) := by decide +kernel
theorem dX6_judge_46 : decode cX6_judge 46 = .ok (.invokevirtual 117, 3) := by decide +kernel
theorem dX6_judge_49 : decode cX6_judge 49 = .ok (.ireturn, 1) := by decide +kernel
theorem dX6_judge_50 : decode cX6_judge 50 = .ok (.iconst 1, 1) := by decide +kernel
theorem dX6_judge_51 : decode cX6_judge 51 = .ok (.istore_n 3, 1) := by decide +kernel
theorem dX6_judge_52 : decode cX6_judge 52 = .ok (.iconst 0, 1) := by decide +kernel
theorem dX6_judge_53 : decode cX6_judge 53 = .ok (.istore 4, 2) := by decide +kernel
theorem dX6_judge_55 : decode cX6_judge 55 = .ok (.iload 4, 2) := by decide +kernel
theorem dX6_judge_57 : decode cX6_judge 57 = .ok (.aload_n 0, 1) := by decide +kernel
theorem dX6_judge_58 : decode cX6_judge 58 = .ok (.getfield 16, 3) := by decide +kernel
theorem dX6_judge_61 : decode cX6_judge 61 = .ok (.iload_n 2, 1) := by decide +kernel
theorem dX6_judge_62 : decode cX6_judge 62 = .ok (.iaload, 1) := by decide +kernel
theorem dX6_judge_63 : decode cX6_judge 63 = .ok (.if_icmp .ge 52, 3) := by decide +kernel
theorem dX6_judge_66 : decode cX6_judge 66 = .ok (.iload_n 3, 1) := by decide +kernel
theorem dX6_judge_67 : decode cX6_judge 67 = .ok (.ifCond .eq 40, 3) := by decide +kernel
theorem dX6_judge_70 : decode cX6_judge 70 = .ok (.aload_n 0, 1) := by decide +kernel
theorem dX6_judge_71 : decode cX6_judge 71 = .ok (.getfield 13, 3) := by decide +kernel
theorem dX6_judge_74 : decode cX6_judge 74 = .ok (.bipush 40, 2) := by decide +kernel
theorem dX6_judge_76 : decode cX6_judge 76 = .ok (.iload_n 2, 1) := by decide +kernel
theorem dX6_judge_77 : decode cX6_judge 77 = .ok (.imul, 1) := by decide +kernel
theorem dX6_judge_78 : decode cX6_judge 78 = .ok (.iload 4, 2) := by decide +kernel
theorem dX6_judge_80 : decode cX6_judge 80 = .ok (.iadd, 1) := by decide +kernel
theorem dX6_judge_81 : decode cX6_judge 81 = .ok (.iaload, 1) := by decide +kernel
theorem dX6_judge_82 : decode cX6_judge 82 = .ok (.iconst 0, 1) := by decide +kernel
theorem dX6_judge_83 : decode cX6_judge 83 = .ok (.iload 4, 2) := by decide +kernel
theorem dX6_judge_85 : decode cX6_judge 85 = .ok (.iconst 2, 1) := by decide +kernel
theorem dX6_judge_86 : decode cX6_judge 86 = .ok (.irem, 1) := by decide +kernel
theorem dX6_judge_87 : decode cX6_judge 87 = .ok (.ifCond .ne 8, 3) := by decide +kernel
theorem dX6_judge_90 : decode cX6_judge 90 = .ok (.bipush 20, 2) := by decide +kernel
theorem dX6_judge_92 : decode cX6_judge 92 = .ok (.goto 5, 3) := by decide +kernel
theorem dX6_judge_95 : decode cX6_judge 95 = .ok (.bipush 10, 2) := by decide +kernel
theorem dX6_judge_97 : decode cX6_judge 97 = .ok (.invokestatic 109, 3) := by decide +kernel
theorem dX6_judge_100 : decode cX6_judge 100 = .ok (.ifCond .eq 7, 3) := by decide +kernel
theorem dX6_judge_103 : decode cX6_judge 103 = .ok (.iconst 1, 1) := by decide +kernel
theorem dX6_judge_104 : decode cX6_judge 104 = .ok (.goto 4, 3) := by decide +kernel
theorem dX6_judge_107 : decode cX6_judge 107 = .ok (.iconst 0, 1) := by decide +kernel
theorem dX6_judge_108 : decode cX6_judge 108 = .ok (.istore_n 3, 1) := by decide +kernel
theorem dX6_judge_109 : decode cX6_judge 109 = .ok (.iinc 4 1, 3) := by decide +kernel
theorem dX6_judge_112 : decode cX6_judge 112 = .ok (.goto (-57), 3) := by decide +kernel
theorem dX6_judge_115 : decode cX6_judge 115 = .ok (.iload_n 3, 1) := by decide +kernel
theorem dX6_judge_116 : decode cX6_judge 116 = .ok (.ifCond .eq 7, 3) := by decide +kernel
theorem dX6_judge_119 : decode cX6_judge 119 = .ok (.iconst 0, 1) := by decide +kernel
theorem dX6_judge_120 : decode cX6_judge 120 = .ok (.goto 8, 3) := by decide +kernel
theorem dX6_judge_123 : decode cX6_judge 123 = .ok (.aload_n 0, 1) := by decide +kernel
theorem dX6_judge_124 : decode cX6_judge 124 = .ok (.iconst 3, 1) := by decide +kernel
theorem dX6_judge_125 : decode cX6_judge 125 = .ok (.invokevirtual 117, 3) := by decide +kernel
theorem dX6_judge_128 : decode cX6_judge 128 = .ok (.ireturn, 1) := by decide +kernel
set_option maxRecDepth 20000 in
theorem ggX6_kindsBy_X6_hemNow : GoodIn wsX6_kindsBy wsX6_hemNow := goodIn_r _ [7, 8, 9, 10, 11, 12, 13, 14, 6, 15, 16, 17, 18, 19, 20, 21, 22, 23, 24, 25, 26, 27, 28, 29, 30, 31, 32, 33, 34, 35, 36, 37, 38, 39, 40, 41, 42, 43, 44, 45, 46, 47, 48, 49, 50, 51, 52, 53, 54, 55, 56, 57, 58, 59, 60, 61, 62, 63] (by decide +kernel) (by decide +kernel)
set_option maxRecDepth 20000 in
theorem gX6_kindsBy_X6_hemNow : GoodIn wsX6_kindsBy (wsV RX6 192 RX6 yX6_hemNow wsX6_hemNow) := goodIn_app (goodIn_of _ (by decide +kernel)) ggX6_kindsBy_X6_hemNow
theorem dX6_kindsBy_0 : decode cX6_kindsBy 0 = .ok (.iconst 0, 1) := by decide +kernel
theorem dX6_kindsBy_1 : decode cX6_kindsBy 1 = .ok (.istore_n 3, 1) := by decide +kernel
theorem dX6_kindsBy_2 : decode cX6_kindsBy 2 = .ok (.iconst 0, 1) := by decide +kernel
theorem dX6_kindsBy_3 : decode cX6_kindsBy 3 = .ok (.istore 4, 2) := by decide +kernel
theorem dX6_kindsBy_5 : decode cX6_kindsBy 5 = .ok (.iload 4, 2) := by decide +kernel
theorem dX6_kindsBy_7 : decode cX6_kindsBy 7 = .ok (.bipush 6, 2) := by decide +kernel
theorem dX6_kindsBy_9 : decode cX6_kindsBy 9 = .ok (.if_icmp .ge 96, 3) := by decide +kernel
theorem dX6_kindsBy_12 : decode cX6_kindsBy 12 = .ok (.iconst 1, 1) := by decide +kernel
theorem dX6_kindsBy_13 : decode cX6_kindsBy 13 = .ok (.istore 5, 2) := by decide +kernel
theorem dX6_kindsBy_15 : decode cX6_kindsBy 15 = .ok (.iconst 0, 1) := by decide +kernel
theorem dX6_kindsBy_16 : decode cX6_kindsBy 16 = .ok (.istore 6, 2) := by decide +kernel
theorem dX6_kindsBy_18 : decode cX6_kindsBy 18 = .ok (.iload 6, 2) := by decide +kernel
theorem dX6_kindsBy_20 : decode cX6_kindsBy 20 = .ok (.aload_n 0, 1) := by decide +kernel
theorem dX6_kindsBy_21 : decode cX6_kindsBy 21 = .ok (.getfield 16, 3) := by decide +kernel
theorem dX6_kindsBy_24 : decode cX6_kindsBy 24 = .ok (.iload_n 2, 1) := by decide +kernel
theorem dX6_kindsBy_25 : decode cX6_kindsBy 25 = .ok (.iaload, 1) := by decide +kernel
theorem dX6_kindsBy_26 : decode cX6_kindsBy 26 = .ok (.if_icmp .ge 57, 3) := by decide +kernel
theorem dX6_kindsBy_29 : decode cX6_kindsBy 29 = .ok (.iload 5, 2) := by decide +kernel
theorem dX6_kindsBy_31 : decode cX6_kindsBy 31 = .ok (.ifCond .eq 43, 3) := by decide +kernel
theorem dX6_kindsBy_34 : decode cX6_kindsBy 34 = .ok (.aload_n 0, 1) := by decide +kernel
theorem dX6_kindsBy_35 : decode cX6_kindsBy 35 = .ok (.iload 4, 2) := by decide +kernel
theorem dX6_kindsBy_37 : decode cX6_kindsBy 37 = .ok (.iload_n 1, 1) := by decide +kernel
theorem dX6_kindsBy_38 : decode cX6_kindsBy 38 = .ok (.aload_n 0, 1) := by decide +kernel
theorem dX6_kindsBy_39 : decode cX6_kindsBy 39 = .ok (.getfield 13, 3) := by decide +kernel
theorem dX6_kindsBy_42 : decode cX6_kindsBy 42 = .ok (.bipush 40, 2) := by decide +kernel
theorem dX6_kindsBy_44 : decode cX6_kindsBy 44 = .ok (.iload_n 2, 1) := by decide +kernel
theorem dX6_kindsBy_45 : decode cX6_kindsBy 45 = .ok (.imul, 1) := by decide +kernel
theorem dX6_kindsBy_46 : decode cX6_kindsBy 46 = .ok (.iload 6, 2) := by decide +kernel
theorem dX6_kindsBy_48 : decode cX6_kindsBy 48 = .ok (.iadd, 1) := by decide +kernel
theorem dX6_kindsBy_49 : decode cX6_kindsBy 49 = .ok (.iaload, 1) := by decide +kernel
theorem dX6_kindsBy_50 : decode cX6_kindsBy 50 = .ok (.invokevirtual 192, 3) := by decide +kernel
theorem dX6_kindsBy_53 : decode cX6_kindsBy 53 = .ok (.aload_n 0, 1) := by decide +kernel
theorem dX6_kindsBy_54 : decode cX6_kindsBy 54 = .ok (.getfield 13, 3) := by decide +kernel
theorem dX6_kindsBy_57 : decode cX6_kindsBy 57 = .ok (.bipush 40, 2) := by decide +kernel
theorem dX6_kindsBy_59 : decode cX6_kindsBy 59 = .ok (.iload_n 2, 1) := by decide +kernel
theorem dX6_kindsBy_60 : decode cX6_kindsBy 60 = .ok (.imul, 1) := by decide +kernel
theorem dX6_kindsBy_61 : decode cX6_kindsBy 61 = .ok (.iload 6, 2) := by decide +kernel
theorem dX6_kindsBy_63 : decode cX6_kindsBy 63 = .ok (.iadd, 1) := by decide +kernel
theorem dX6_kindsBy_64 : decode cX6_kindsBy 64 = .ok (.iconst 1, 1) := by decide +kernel
theorem dX6_kindsBy_65 : decode cX6_kindsBy 65 = .ok (.iadd, 1) := by decide +kernel
theorem dX6_kindsBy_66 : decode cX6_kindsBy 66 = .ok (.iaload, 1) := by decide +kernel
theorem dX6_kindsBy_67 : decode cX6_kindsBy 67 = .ok (.if_icmp .ne 7, 3) := by decide +kernel
theorem dX6_kindsBy_70 : decode cX6_kindsBy 70 = .ok (.iconst 1, 1) := by decide +kernel
theorem dX6_kindsBy_71 : decode cX6_kindsBy 71 = .ok (.goto 4, 3) := by decide +kernel
theorem dX6_kindsBy_74 : decode cX6_kindsBy 74 = .ok (.iconst 0, 1) := by decide +kernel
theorem dX6_kindsBy_75 : decode cX6_kindsBy 75 = .ok (.istore 5, 2) := by decide +kernel
theorem dX6_kindsBy_77 : decode cX6_kindsBy 77 = .ok (.iinc 6 2, 3) := by decide +kernel
theorem dX6_kindsBy_80 : decode cX6_kindsBy 80 = .ok (.goto (-62), 3) := by decide +kernel
theorem dX6_kindsBy_83 : decode cX6_kindsBy 83 = .ok (.iload_n 3, 1) := by decide +kernel
theorem dX6_kindsBy_84 : decode cX6_kindsBy 84 = .ok (.iload 5, 2) := by decide +kernel
theorem dX6_kindsBy_86 : decode cX6_kindsBy 86 = .ok (.ifCond .eq 10, 3) := by decide +kernel
theorem dX6_kindsBy_89 : decode cX6_kindsBy 89 = .ok (.iconst 1, 1) := by decide +kernel
theorem dX6_kindsBy_90 : decode cX6_kindsBy 90 = .ok (.iload 4, 2) := by decide +kernel
theorem dX6_kindsBy_92 : decode cX6_kindsBy 92 = .ok (.ishl, 1) := by decide +kernel
theorem dX6_kindsBy_93 : decode cX6_kindsBy 93 = .ok (.goto 4, 3) := by decide +kernel
theorem dX6_kindsBy_96 : decode cX6_kindsBy 96 = .ok (.iconst 0, 1) := by decide +kernel
theorem dX6_kindsBy_97 : decode cX6_kindsBy 97 = .ok (.ior, 1) := by decide +kernel
theorem dX6_kindsBy_98 : decode cX6_kindsBy 98 = .ok (.istore_n 3, 1) := by decide +kernel
theorem dX6_kindsBy_99 : decode cX6_kindsBy 99 = .ok (.iinc 4 1, 3) := by decide +kernel
theorem dX6_kindsBy_102 : decode cX6_kindsBy 102 = .ok (.goto (-97), 3) := by decide +kernel
theorem dX6_kindsBy_105 : decode cX6_kindsBy 105 = .ok (.iload_n 3, 1) := by decide +kernel
theorem dX6_kindsBy_106 : decode cX6_kindsBy 106 = .ok (.ireturn, 1) := by decide +kernel
set_option maxRecDepth 20000 in
theorem ggX6_kinds_X6_judge : GoodIn wsX6_kinds wsX6_judge := goodIn_r _ [5, 6, 7, 8, 9, 10, 4, 11, 12, 13, 14, 15, 16, 17, 18, 19, 20, 21, 22, 23, 24, 47, 48, 49, 50, 51, 52, 53, 54, 55, 56, 57, 58, 59, 60, 61, 62, 63, 64, 65, 66, 67, 68, 69, 70, 71, 72, 73, 74, 75, 76, 77, 78, 79, 80, 81, 82, 83, 84, 85, 86, 87, 88] (by decide +kernel) (by decide +kernel)
set_option maxRecDepth 20000 in
theorem gX6_kinds_X6_judge : GoodIn wsX6_kinds (wsV RX6 244 RX6 yX6_judge wsX6_judge) := goodIn_app (goodIn_of _ (by decide +kernel)) ggX6_kinds_X6_judge
set_option maxRecDepth 20000 in
theorem ggX6_kinds_X6_kindsBy : GoodIn wsX6_kinds wsX6_kindsBy := goodIn_r _ [28, 6, 7, 29, 30, 31, 4, 32, 33, 34, 35, 36, 37, 38, 39, 40, 41, 42, 43, 44, 45, 46, 47, 48, 49, 50, 51, 52, 53, 54, 55, 56, 57, 58, 59, 60, 61, 62, 63, 64, 65, 66, 67, 68, 69, 70, 71, 72, 73, 74, 75, 76, 77, 78, 79, 80, 81, 82, 83, 84, 85, 86, 87, 88] (by decide +kernel) (by decide +kernel)
set_option maxRecDepth 20000 in
theorem gX6_kinds_X6_kindsBy : GoodIn wsX6_kinds (wsV RX6 247 RX6 yX6_kindsBy wsX6_kindsBy) := goodIn_app (goodIn_of _ (by decide +kernel)) ggX6_kinds_X6_kindsBy
theorem dX6_kinds_0 : decode cX6_kinds 0 = .ok (.aload_n 0, 1) := by decide +kernel
theorem dX6_kinds_1 : decode cX6_kinds 1 = .ok (.iload_n 1, 1) := by decide +kernel
theorem dX6_kinds_2 : decode cX6_kinds 2 = .ok (.iload_n 2, 1) := by decide +kernel
theorem dX6_kinds_3 : decode cX6_kinds 3 = .ok (.invokevirtual 244, 3) := by decide +kernel
theorem dX6_kinds_6 : decode cX6_kinds 6 = .ok (.istore_n 3, 1) := by decide +kernel
theorem dX6_kinds_7 : decode cX6_kinds 7 = .ok (.iload_n 3, 1) := by decide +kernel
theorem dX6_kinds_8 : decode cX6_kinds 8 = .ok (.ifCond .ge 7, 3) := by decide +kernel
theorem dX6_kinds_11 : decode cX6_kinds 11 = .ok (.iload_n 3, 1) := by decide +kernel
theorem dX6_kinds_12 : decode cX6_kinds 12 = .ok (.goto 9, 3) := by decide +kernel
theorem dX6_kinds_15 : decode cX6_kinds 15 = .ok (.aload_n 0, 1) := by decide +kernel
theorem dX6_kinds_16 : decode cX6_kinds 16 = .ok (.iload_n 1, 1) := by decide +kernel
theorem dX6_kinds_17 : decode cX6_kinds 17 = .ok (.iload_n 2, 1) := by decide +kernel
theorem dX6_kinds_18 : decode cX6_kinds 18 = .ok (.invokevirtual 247, 3) := by decide +kernel
theorem dX6_kinds_21 : decode cX6_kinds 21 = .ok (.ireturn, 1) := by decide +kernel
set_option maxRecDepth 20000 in
theorem ggX6_test_X6_judge : GoodIn wsX6_test wsX6_judge := goodIn_r _ [6, 7, 8, 9, 10, 11, 5, 12, 13, 14, 15, 16, 17, 18, 19, 20, 21, 22, 23, 24, 25, 48, 49, 50, 51, 52, 53, 54, 55, 56, 57, 58, 59, 60, 61, 62, 63, 64, 65, 66, 67, 68, 69, 70, 71, 72, 73, 74, 75, 76, 77, 78, 79, 80, 81, 82, 83, 84, 85, 86, 87, 88, 89] (by decide +kernel) (by decide +kernel)
set_option maxRecDepth 20000 in
theorem gX6_test_X6_judge : GoodIn wsX6_test (wsV RX6 244 RX6 yX6_judge wsX6_judge) := goodIn_app (goodIn_of _ (by decide +kernel)) ggX6_test_X6_judge
set_option maxRecDepth 20000 in
theorem ggX6_test_X6_kindsBy : GoodIn wsX6_test wsX6_kindsBy := goodIn_r _ [29, 7, 8, 30, 31, 32, 5, 33, 34, 35, 36, 37, 38, 39, 40, 41, 42, 43, 44, 45, 46, 47, 48, 49, 50, 51, 52, 53, 54, 55, 56, 57, 58, 59, 60, 61, 62, 63, 64, 65, 66, 67, 68, 69, 70, 71, 72, 73, 74, 75, 76, 77, 78, 79, 80, 81, 82, 83, 84, 85, 86, 87, 88, 89] (by decide +kernel) (by decide +kernel)
set_option maxRecDepth 20000 in
theorem gX6_test_X6_kindsBy : GoodIn wsX6_test (wsV RX6 247 RX6 yX6_kindsBy wsX6_kindsBy) := goodIn_app (goodIn_of _ (by decide +kernel)) ggX6_test_X6_kindsBy
set_option maxRecDepth 20000 in
theorem ggX6_test_X6_hemNow : GoodIn wsX6_test wsX6_hemNow := goodIn_r _ [33, 34, 35, 36, 37, 38, 39, 40, 5, 41, 42, 43, 44, 45, 46, 47, 48, 49, 50, 51, 52, 53, 54, 55, 56, 57, 58, 59, 60, 61, 62, 63, 64, 65, 66, 67, 68, 69, 70, 71, 72, 73, 74, 75, 76, 77, 78, 79, 80, 81, 82, 83, 84, 85, 86, 87, 88, 89] (by decide +kernel) (by decide +kernel)
set_option maxRecDepth 20000 in
theorem gX6_test_X6_hemNow : GoodIn wsX6_test (wsV RX6 192 RX6 yX6_hemNow wsX6_hemNow) := goodIn_app (goodIn_of _ (by decide +kernel)) ggX6_test_X6_hemNow
theorem dX6_test_0 : decode cX6_test 0 = .ok (.aload_n 0, 1) := by decide +kernel
theorem dX6_test_1 : decode cX6_test 1 = .ok (.iload_n 1, 1) := by decide +kernel
theorem dX6_test_2 : decode cX6_test 2 = .ok (.iload_n 2, 1) := by decide +kernel
theorem dX6_test_3 : decode cX6_test 3 = .ok (.invokevirtual 244, 3) := by decide +kernel
theorem dX6_test_6 : decode cX6_test 6 = .ok (.istore_n 3, 1) := by decide +kernel
theorem dX6_test_7 : decode cX6_test 7 = .ok (.iload_n 3, 1) := by decide +kernel
theorem dX6_test_8 : decode cX6_test 8 = .ok (.ifCond .ge 5, 3) := by decide +kernel
theorem dX6_test_11 : decode cX6_test 11 = .ok (.iload_n 3, 1) := by decide +kernel
theorem dX6_test_12 : decode cX6_test 12 = .ok (.ireturn, 1) := by decide +kernel
theorem dX6_test_13 : decode cX6_test 13 = .ok (.aload_n 0, 1) := by decide +kernel
theorem dX6_test_14 : decode cX6_test 14 = .ok (.iload_n 1, 1) := by decide +kernel
theorem dX6_test_15 : decode cX6_test 15 = .ok (.iload_n 2, 1) := by decide +kernel
theorem dX6_test_16 : decode cX6_test 16 = .ok (.invokevirtual 247, 3) := by decide +kernel
theorem dX6_test_19 : decode cX6_test 19 = .ok (.istore 4, 2) := by decide +kernel
theorem dX6_test_21 : decode cX6_test 21 = .ok (.iload 4, 2) := by decide +kernel
theorem dX6_test_23 : decode cX6_test 23 = .ok (.ifCond .ne 6, 3) := by decide +kernel
theorem dX6_test_26 : decode cX6_test 26 = .ok (.bipush (-9), 2) := by decide +kernel
theorem dX6_test_28 : decode cX6_test 28 = .ok (.ireturn, 1) := by decide +kernel
theorem dX6_test_29 : decode cX6_test 29 = .ok (.bipush (-9), 2) := by decide +kernel
theorem dX6_test_31 : decode cX6_test 31 = .ok (.istore 5, 2) := by decide +kernel
theorem dX6_test_33 : decode cX6_test 33 = .ok (.iconst 0, 1) := by decide +kernel
theorem dX6_test_34 : decode cX6_test 34 = .ok (.istore 6, 2) := by decide +kernel
theorem dX6_test_36 : decode cX6_test 36 = .ok (.iconst 0, 1) := by decide +kernel
theorem dX6_test_37 : decode cX6_test 37 = .ok (.istore 7, 2) := by decide +kernel
theorem dX6_test_39 : decode cX6_test 39 = .ok (.iload 7, 2) := by decide +kernel
theorem dX6_test_41 : decode cX6_test 41 = .ok (.bipush 20, 2) := by decide +kernel
theorem dX6_test_43 : decode cX6_test 43 = .ok (.if_icmp .gt 120, 3) := by decide +kernel
theorem dX6_test_46 : decode cX6_test 46 = .ok (.iconst 0, 1) := by decide +kernel
theorem dX6_test_47 : decode cX6_test 47 = .ok (.istore 8, 2) := by decide +kernel
theorem dX6_test_49 : decode cX6_test 49 = .ok (.iconst 0, 1) := by decide +kernel
theorem dX6_test_50 : decode cX6_test 50 = .ok (.istore 9, 2) := by decide +kernel
theorem dX6_test_52 : decode cX6_test 52 = .ok (.iload 9, 2) := by decide +kernel
theorem dX6_test_54 : decode cX6_test 54 = .ok (.bipush 10, 2) := by decide +kernel
theorem dX6_test_56 : decode cX6_test 56 = .ok (.if_icmp .gt 79, 3) := by decide +kernel
theorem dX6_test_59 : decode cX6_test 59 = .ok (.iconst 0, 1) := by decide +kernel
theorem dX6_test_60 : decode cX6_test 60 = .ok (.istore 10, 2) := by decide +kernel
theorem dX6_test_62 : decode cX6_test 62 = .ok (.iconst 0, 1) := by decide +kernel
theorem dX6_test_63 : decode cX6_test 63 = .ok (.istore 11, 2) := by decide +kernel
theorem dX6_test_65 : decode cX6_test 65 = .ok (.iload 11, 2) := by decide +kernel
theorem dX6_test_67 : decode cX6_test 67 = .ok (.bipush 6, 2) := by decide +kernel
theorem dX6_test_69 : decode cX6_test 69 = .ok (.if_icmp .ge 44, 3) := by decide +kernel
theorem dX6_test_72 : decode cX6_test 72 = .ok (.iload 10, 2) := by decide +kernel
theorem dX6_test_74 : decode cX6_test 74 = .ok (.iload 4, 2) := by decide +kernel
theorem dX6_test_76 : decode cX6_test 76 = .ok (.iload 11, 2) := by decide +kernel
theorem dX6_test_78 : decode cX6_test 78 = .ok (.ishr, 1) := by decide +kernel
theorem dX6_test_79 : decode cX6_test 79 = .ok (.iconst 1, 1) := by decide +kernel
theorem dX6_test_80 : decode cX6_test 80 = .ok (.iand, 1) := by decide +kernel
theorem dX6_test_81 : decode cX6_test 81 = .ok (.iconst 1, 1) := by decide +kernel
theorem dX6_test_82 : decode cX6_test 82 = .ok (.if_icmp .ne 21, 3) := by decide +kernel
theorem dX6_test_85 : decode cX6_test 85 = .ok (.aload_n 0, 1) := by decide +kernel
theorem dX6_test_86 : decode cX6_test 86 = .ok (.iload 11, 2) := by decide +kernel
theorem dX6_test_88 : decode cX6_test 88 = .ok (.iload_n 1, 1) := by decide +kernel
theorem dX6_test_89 : decode cX6_test 89 = .ok (.iload 7, 2) := by decide +kernel
theorem dX6_test_91 : decode cX6_test 91 = .ok (.invokevirtual 192, 3) := by decide +kernel
theorem dX6_test_94 : decode cX6_test 94 = .ok (.iload 9, 2) := by decide +kernel
theorem dX6_test_96 : decode cX6_test 96 = .ok (.if_icmp .ne 7, 3) := by decide +kernel
theorem dX6_test_99 : decode cX6_test 99 = .ok (.iconst 1, 1) := by decide +kernel
theorem dX6_test_100 : decode cX6_test 100 = .ok (.goto 4, 3) := by decide +kernel
theorem dX6_test_103 : decode cX6_test 103 = .ok (.iconst 0, 1) := by decide +kernel
theorem dX6_test_104 : decode cX6_test 104 = .ok (.iadd, 1) := by decide +kernel
theorem dX6_test_105 : decode cX6_test 105 = .ok (.istore 10, 2) := by decide +kernel
theorem dX6_test_107 : decode cX6_test 107 = .ok (.iinc 11 1, 3) := by decide +kernel
theorem dX6_test_110 : decode cX6_test 110 = .ok (.goto (-45), 3) := by decide +kernel
theorem dX6_test_113 : decode cX6_test 113 = .ok (.iload 10, 2) := by decide +kernel
theorem dX6_test_115 : decode cX6_test 115 = .ok (.iload 8, 2) := by decide +kernel
theorem dX6_test_117 : decode cX6_test 117 = .ok (.if_icmp .le 8, 3) := by decide +kernel
theorem dX6_test_120 : decode cX6_test 120 = .ok (.iload 10, 2) := by decide +kernel
theorem dX6_test_122 : decode cX6_test 122 = .ok (.goto 5, 3) := by decide +kernel
theorem dX6_test_125 : decode cX6_test 125 = .ok (.iload 8, 2) := by decide +kernel
theorem dX6_test_127 : decode cX6_test 127 = .ok (.istore 8, 2) := by decide +kernel
theorem dX6_test_129 : decode cX6_test 129 = .ok (.iinc 9 1, 3) := by decide +kernel
theorem dX6_test_132 : decode cX6_test 132 = .ok (.goto (-80), 3) := by decide +kernel
theorem dX6_test_135 : decode cX6_test 135 = .ok (.iload 5, 2) := by decide +kernel
theorem dX6_test_137 : decode cX6_test 137 = .ok (.bipush (-9), 2) := by decide +kernel
theorem dX6_test_139 : decode cX6_test 139 = .ok (.if_icmp .eq 10, 3) := by decide +kernel
theorem dX6_test_142 : decode cX6_test 142 = .ok (.iload 8, 2) := by decide +kernel
theorem dX6_test_144 : decode cX6_test 144 = .ok (.iload 6, 2) := by decide +kernel
theorem dX6_test_146 : decode cX6_test 146 = .ok (.if_icmp .ge 11, 3) := by decide +kernel
theorem dX6_test_149 : decode cX6_test 149 = .ok (.iload 7, 2) := by decide +kernel
theorem dX6_test_151 : decode cX6_test 151 = .ok (.istore 5, 2) := by decide +kernel
theorem dX6_test_153 : decode cX6_test 153 = .ok (.iload 8, 2) := by decide +kernel
theorem dX6_test_155 : decode cX6_test 155 = .ok (.istore 6, 2) := by decide +kernel
theorem dX6_test_157 : decode cX6_test 157 = .ok (.iinc 7 1, 3) := by decide +kernel
theorem dX6_test_160 : decode cX6_test 160 = .ok (.goto (-121), 3) := by decide +kernel
theorem dX6_test_163 : decode cX6_test 163 = .ok (.aload_n 0, 1) := by decide +kernel
theorem dX6_test_164 : decode cX6_test 164 = .ok (.iload 6, 2) := by decide +kernel
theorem dX6_test_166 : decode cX6_test 166 = .ok (.putfield 103, 3) := by decide +kernel
theorem dX6_test_169 : decode cX6_test 169 = .ok (.iload 5, 2) := by decide +kernel
theorem dX6_test_171 : decode cX6_test 171 = .ok (.ireturn, 1) := by decide +kernel
set_option maxRecDepth 20000 in
theorem ggX6_whose_X6_isRow : GoodIn wsX6_whose wsX6_isRow := goodIn_r _ [10, 11, 12, 9, 13] (by decide +kernel) (by decide +kernel)
set_option maxRecDepth 20000 in
theorem gX6_whose_X6_isRow : GoodIn wsX6_whose (va_wsS RX6 113 yX6_isRow wsX6_isRow) := goodIn_app (goodIn_of _ (by decide +kernel)) ggX6_whose_X6_isRow
set_option maxRecDepth 20000 in
theorem ggX6_whose_X6_refuse : GoodIn wsX6_whose wsX6_refuse := goodIn_r _ [17, 18, 19, 20, 21, 22, 23, 24, 25, 26, 27, 28, 29, 30, 31, 32, 33, 34, 35, 36, 37, 38, 39, 40, 41, 42, 43, 44, 45, 46, 47, 48, 49, 50, 51, 52, 53, 54, 55, 56, 57, 58, 59, 60, 61] (by decide +kernel) (by decide +kernel)
set_option maxRecDepth 20000 in
theorem gX6_whose_X6_refuse : GoodIn wsX6_whose (wsV RX6 117 RX6 yX6_refuse wsX6_refuse) := goodIn_app (goodIn_of _ (by decide +kernel)) ggX6_whose_X6_refuse
theorem dX6_whose_0 : decode cX6_whose 0 = .ok (.iload_n 1, 1) := by decide +kernel
theorem dX6_whose_1 : decode cX6_whose 1 = .ok (.invokestatic 113, 3) := by decide +kernel
theorem dX6_whose_4 : decode cX6_whose 4 = .ok (.ifCond .ne 5, 3) := by decide +kernel
theorem dX6_whose_7 : decode cX6_whose 7 = .ok (.iconst (-1), 1) := by decide +kernel
theorem dX6_whose_8 : decode cX6_whose 8 = .ok (.ireturn, 1) := by decide +kernel
theorem dX6_whose_9 : decode cX6_whose 9 = .ok (.aload_n 0, 1) := by decide +kernel
theorem dX6_whose_10 : decode cX6_whose 10 = .ok (.getfield 167, 3) := by decide +kernel
theorem dX6_whose_13 : decode cX6_whose 13 = .ok (.ifCond .ne 6, 3) := by decide +kernel
theorem dX6_whose_16 : decode cX6_whose 16 = .ok (.bipush (-4), 2) := by decide +kernel
theorem dX6_whose_18 : decode cX6_whose 18 = .ok (.ireturn, 1) := by decide +kernel
theorem dX6_whose_19 : decode cX6_whose 19 = .ok (.aload_n 0, 1) := by decide +kernel
theorem dX6_whose_20 : decode cX6_whose 20 = .ok (.getfield 16, 3) := by decide +kernel
theorem dX6_whose_23 : decode cX6_whose 23 = .ok (.iload_n 1, 1) := by decide +kernel
theorem dX6_whose_24 : decode cX6_whose 24 = .ok (.iaload, 1) := by decide +kernel
theorem dX6_whose_25 : decode cX6_whose 25 = .ok (.ifCond .ge 9, 3) := by decide +kernel
theorem dX6_whose_28 : decode cX6_whose 28 = .ok (.aload_n 0, 1) := by decide +kernel
theorem dX6_whose_29 : decode cX6_whose 29 = .ok (.iconst 1, 1) := by decide +kernel
theorem dX6_whose_30 : decode cX6_whose 30 = .ok (.invokevirtual 117, 3) := by decide +kernel
theorem dX6_whose_33 : decode cX6_whose 33 = .ok (.ireturn, 1) := by decide +kernel
theorem dX6_whose_34 : decode cX6_whose 34 = .ok (.aload_n 0, 1) := by decide +kernel
theorem dX6_whose_35 : decode cX6_whose 35 = .ok (.getfield 16, 3) := by decide +kernel
theorem dX6_whose_38 : decode cX6_whose 38 = .ok (.iload_n 1, 1) := by decide +kernel
theorem dX6_whose_39 : decode cX6_whose 39 = .ok (.iaload, 1) := by decide +kernel
theorem dX6_whose_40 : decode cX6_whose 40 = .ok (.aload_n 0, 1) := by decide +kernel
theorem dX6_whose_41 : decode cX6_whose 41 = .ok (.getfield 185, 3) := by decide +kernel
theorem dX6_whose_44 : decode cX6_whose 44 = .ok (.if_icmp .le 9, 3) := by decide +kernel
theorem dX6_whose_47 : decode cX6_whose 47 = .ok (.aload_n 0, 1) := by decide +kernel
theorem dX6_whose_48 : decode cX6_whose 48 = .ok (.iconst 5, 1) := by decide +kernel
theorem dX6_whose_49 : decode cX6_whose 49 = .ok (.invokevirtual 117, 3) := by decide +kernel
theorem dX6_whose_52 : decode cX6_whose 52 = .ok (.ireturn, 1) := by decide +kernel
theorem dX6_whose_53 : decode cX6_whose 53 = .ok (.iconst 0, 1) := by decide +kernel
theorem dX6_whose_54 : decode cX6_whose 54 = .ok (.istore_n 2, 1) := by decide +kernel
theorem dX6_whose_55 : decode cX6_whose 55 = .ok (.iconst 0, 1) := by decide +kernel
theorem dX6_whose_56 : decode cX6_whose 56 = .ok (.istore_n 3, 1) := by decide +kernel
theorem dX6_whose_57 : decode cX6_whose 57 = .ok (.iload_n 3, 1) := by decide +kernel
theorem dX6_whose_58 : decode cX6_whose 58 = .ok (.aload_n 0, 1) := by decide +kernel
theorem dX6_whose_59 : decode cX6_whose 59 = .ok (.getfield 167, 3) := by decide +kernel
theorem dX6_whose_62 : decode cX6_whose 62 = .ok (.if_icmp .ge 86, 3) := by decide +kernel
theorem dX6_whose_65 : decode cX6_whose 65 = .ok (.iconst 1, 1) := by decide +kernel
theorem dX6_whose_66 : decode cX6_whose 66 = .ok (.istore 4, 2) := by decide +kernel
theorem dX6_whose_68 : decode cX6_whose 68 = .ok (.iconst 0, 1) := by decide +kernel
theorem dX6_whose_69 : decode cX6_whose 69 = .ok (.istore 5, 2) := by decide +kernel
theorem dX6_whose_71 : decode cX6_whose 71 = .ok (.iload 5, 2) := by decide +kernel
theorem dX6_whose_73 : decode cX6_whose 73 = .ok (.aload_n 0, 1) := by decide +kernel
theorem dX6_whose_74 : decode cX6_whose 74 = .ok (.getfield 16, 3) := by decide +kernel
theorem dX6_whose_77 : decode cX6_whose 77 = .ok (.iload_n 1, 1) := by decide +kernel
theorem dX6_whose_78 : decode cX6_whose 78 = .ok (.iaload, 1) := by decide +kernel
theorem dX6_whose_79 : decode cX6_whose 79 = .ok (.if_icmp .ge 48, 3) := by decide +kernel
theorem dX6_whose_82 : decode cX6_whose 82 = .ok (.iload 4, 2) := by decide +kernel
theorem dX6_whose_84 : decode cX6_whose 84 = .ok (.ifCond .eq 34, 3) := by decide +kernel
theorem dX6_whose_87 : decode cX6_whose 87 = .ok (.aload_n 0, 1) := by decide +kernel
theorem dX6_whose_88 : decode cX6_whose 88 = .ok (.getfield 71, 3) := by decide +kernel
theorem dX6_whose_91 : decode cX6_whose 91 = .ok (.bipush 6, 2) := by decide +kernel
theorem dX6_whose_93 : decode cX6_whose 93 = .ok (.iload 5, 2) := by decide +kernel
theorem dX6_whose_95 : decode cX6_whose 95 = .ok (.imul, 1) := by decide +kernel
theorem dX6_whose_96 : decode cX6_whose 96 = .ok (.iload_n 3, 1) := by decide +kernel
theorem dX6_whose_97 : decode cX6_whose 97 = .ok (.iadd, 1) := by decide +kernel
theorem dX6_whose_98 : decode cX6_whose 98 = .ok (.iaload, 1) := by decide +kernel
theorem dX6_whose_99 : decode cX6_whose 99 = .ok (.aload_n 0, 1) := by decide +kernel
theorem dX6_whose_100 : decode cX6_whose 100 = .ok (.getfield 13, 3) := by decide +kernel
theorem dX6_whose_103 : decode cX6_whose 103 = .ok (.bipush 40, 2) := by decide +kernel
theorem dX6_whose_105 : decode cX6_whose 105 = .ok (.iload_n 1, 1) := by decide +kernel
theorem dX6_whose_106 : decode cX6_whose 106 = .ok (.imul, 1) := by decide +kernel
theorem dX6_whose_107 : decode cX6_whose 107 = .ok (.iload 5, 2) := by decide +kernel
theorem dX6_whose_109 : decode cX6_whose 109 = .ok (.iadd, 1) := by decide +kernel
theorem dX6_whose_110 : decode cX6_whose 110 = .ok (.iaload, 1) := by decide +kernel
theorem dX6_whose_111 : decode cX6_whose 111 = .ok (.if_icmp .ne 7, 3) := by decide +kernel
theorem dX6_whose_114 : decode cX6_whose 114 = .ok (.iconst 1, 1) := by decide +kernel
theorem dX6_whose_115 : decode cX6_whose 115 = .ok (.goto 4, 3) := by decide +kernel
theorem dX6_whose_118 : decode cX6_whose 118 = .ok (.iconst 0, 1) := by decide +kernel
theorem dX6_whose_119 : decode cX6_whose 119 = .ok (.istore 4, 2) := by decide +kernel
theorem dX6_whose_121 : decode cX6_whose 121 = .ok (.iinc 5 1, 3) := by decide +kernel
theorem dX6_whose_124 : decode cX6_whose 124 = .ok (.goto (-53), 3) := by decide +kernel
theorem dX6_whose_127 : decode cX6_whose 127 = .ok (.iload_n 2, 1) := by decide +kernel
theorem dX6_whose_128 : decode cX6_whose 128 = .ok (.iload 4, 2) := by decide +kernel
theorem dX6_whose_130 : decode cX6_whose 130 = .ok (.ifCond .eq 9, 3) := by decide +kernel
theorem dX6_whose_133 : decode cX6_whose 133 = .ok (.iconst 1, 1) := by decide +kernel
theorem dX6_whose_134 : decode cX6_whose 134 = .ok (.iload_n 3, 1) := by decide +kernel
theorem dX6_whose_135 : decode cX6_whose 135 = .ok (.ishl, 1) := by decide +kernel
theorem dX6_whose_136 : decode cX6_whose 136 = .ok (.goto 4, 3) := by decide +kernel
theorem dX6_whose_139 : decode cX6_whose 139 = .ok (.iconst 0, 1) := by decide +kernel
theorem dX6_whose_140 : decode cX6_whose 140 = .ok (.ior, 1) := by decide +kernel
theorem dX6_whose_141 : decode cX6_whose 141 = .ok (.istore_n 2, 1) := by decide +kernel
theorem dX6_whose_142 : decode cX6_whose 142 = .ok (.iinc 3 1, 3) := by decide +kernel
theorem dX6_whose_145 : decode cX6_whose 145 = .ok (.goto (-88), 3) := by decide +kernel
theorem dX6_whose_148 : decode cX6_whose 148 = .ok (.aload_n 0, 1) := by decide +kernel
theorem dX6_whose_149 : decode cX6_whose 149 = .ok (.aload_n 0, 1) := by decide +kernel
theorem dX6_whose_150 : decode cX6_whose 150 = .ok (.getfield 16, 3) := by decide +kernel
theorem dX6_whose_153 : decode cX6_whose 153 = .ok (.iload_n 1, 1) := by decide +kernel
theorem dX6_whose_154 : decode cX6_whose 154 = .ok (.iaload, 1) := by decide +kernel
theorem dX6_whose_155 : decode cX6_whose 155 = .ok (.aload_n 0, 1) := by decide +kernel
theorem dX6_whose_156 : decode cX6_whose 156 = .ok (.getfield 185, 3) := by decide +kernel
theorem dX6_whose_159 : decode cX6_whose 159 = .ok (.if_icmp .ne 7, 3) := by decide +kernel
theorem dX6_whose_162 : decode cX6_whose 162 = .ok (.iload_n 2, 1) := by decide +kernel
theorem dX6_whose_163 : decode cX6_whose 163 = .ok (.goto 4, 3) := by decide +kernel
theorem dX6_whose_166 : decode cX6_whose 166 = .ok (.iconst 0, 1) := by decide +kernel
theorem dX6_whose_167 : decode cX6_whose 167 = .ok (.putfield 103, 3) := by decide +kernel
theorem dX6_whose_170 : decode cX6_whose 170 = .ok (.iload_n 2, 1) := by decide +kernel
theorem dX6_whose_171 : decode cX6_whose 171 = .ok (.ireturn, 1) := by decide +kernel
set_option maxRecDepth 20000 in
theorem ggX6_wetAll_X6_wet : GoodIn wsX6_wetAll wsX6_wet := goodIn_r _ [8] (by decide +kernel) (by decide +kernel)
set_option maxRecDepth 20000 in
theorem gX6_wetAll_X6_wet : GoodIn wsX6_wetAll (va_wsS RX6 182 yX6_wet wsX6_wet) := goodIn_app (goodIn_of _ (by decide +kernel)) ggX6_wetAll_X6_wet
theorem dX6_wetAll_0 : decode cX6_wetAll 0 = .ok (.iconst 0, 1) := by decide +kernel
theorem dX6_wetAll_1 : decode cX6_wetAll 1 = .ok (.istore_n 3, 1) := by decide +kernel
theorem dX6_wetAll_2 : decode cX6_wetAll 2 = .ok (.iconst 0, 1) := by decide +kernel
theorem dX6_wetAll_3 : decode cX6_wetAll 3 = .ok (.istore 4, 2) := by decide +kernel
theorem dX6_wetAll_5 : decode cX6_wetAll 5 = .ok (.iload 4, 2) := by decide +kernel
theorem dX6_wetAll_7 : decode cX6_wetAll 7 = .ok (.aload_n 0, 1) := by decide +kernel
theorem dX6_wetAll_8 : decode cX6_wetAll 8 = .ok (.getfield 167, 3) := by decide +kernel
theorem dX6_wetAll_11 : decode cX6_wetAll 11 = .ok (.if_icmp .ge 60, 3) := by decide +kernel
theorem dX6_wetAll_14 : decode cX6_wetAll 14 = .ok (.iload_n 3, 1) := by decide +kernel
theorem dX6_wetAll_15 : decode cX6_wetAll 15 = .ok (.iload_n 2, 1) := by decide +kernel
theorem dX6_wetAll_16 : decode cX6_wetAll 16 = .ok (.aload_n 0, 1) := by decide +kernel
theorem dX6_wetAll_17 : decode cX6_wetAll 17 = .ok (.getfield 59, 3) := by decide +kernel
theorem dX6_wetAll_20 : decode cX6_wetAll 20 = .ok (.iload 4, 2) := by decide +kernel
theorem dX6_wetAll_22 : decode cX6_wetAll 22 = .ok (.iaload, 1) := by decide +kernel
theorem dX6_wetAll_23 : decode cX6_wetAll 23 = .ok (.ishr, 1) := by decide +kernel
theorem dX6_wetAll_24 : decode cX6_wetAll 24 = .ok (.iconst 1, 1) := by decide +kernel
theorem dX6_wetAll_25 : decode cX6_wetAll 25 = .ok (.iand, 1) := by decide +kernel
theorem dX6_wetAll_26 : decode cX6_wetAll 26 = .ok (.iconst 1, 1) := by decide +kernel
theorem dX6_wetAll_27 : decode cX6_wetAll 27 = .ok (.if_icmp .ne 35, 3) := by decide +kernel
theorem dX6_wetAll_30 : decode cX6_wetAll 30 = .ok (.iload_n 1, 1) := by decide +kernel
theorem dX6_wetAll_31 : decode cX6_wetAll 31 = .ok (.aload_n 0, 1) := by decide +kernel
theorem dX6_wetAll_32 : decode cX6_wetAll 32 = .ok (.getfield 65, 3) := by decide +kernel
theorem dX6_wetAll_35 : decode cX6_wetAll 35 = .ok (.aload_n 0, 1) := by decide +kernel
theorem dX6_wetAll_36 : decode cX6_wetAll 36 = .ok (.getfield 59, 3) := by decide +kernel
theorem dX6_wetAll_39 : decode cX6_wetAll 39 = .ok (.iload 4, 2) := by decide +kernel
theorem dX6_wetAll_41 : decode cX6_wetAll 41 = .ok (.iaload, 1) := by decide +kernel
theorem dX6_wetAll_42 : decode cX6_wetAll 42 = .ok (.iaload, 1) := by decide +kernel
theorem dX6_wetAll_43 : decode cX6_wetAll 43 = .ok (.aload_n 0, 1) := by decide +kernel
theorem dX6_wetAll_44 : decode cX6_wetAll 44 = .ok (.getfield 89, 3) := by decide +kernel
theorem dX6_wetAll_47 : decode cX6_wetAll 47 = .ok (.aload_n 0, 1) := by decide +kernel
theorem dX6_wetAll_48 : decode cX6_wetAll 48 = .ok (.getfield 59, 3) := by decide +kernel
theorem dX6_wetAll_51 : decode cX6_wetAll 51 = .ok (.iload 4, 2) := by decide +kernel
theorem dX6_wetAll_53 : decode cX6_wetAll 53 = .ok (.iaload, 1) := by decide +kernel
theorem dX6_wetAll_54 : decode cX6_wetAll 54 = .ok (.iaload, 1) := by decide +kernel
theorem dX6_wetAll_55 : decode cX6_wetAll 55 = .ok (.iadd, 1) := by decide +kernel
theorem dX6_wetAll_56 : decode cX6_wetAll 56 = .ok (.invokestatic 182, 3) := by decide +kernel
theorem dX6_wetAll_59 : decode cX6_wetAll 59 = .ok (.goto 4, 3) := by decide +kernel
theorem dX6_wetAll_62 : decode cX6_wetAll 62 = .ok (.iconst 0, 1) := by decide +kernel
theorem dX6_wetAll_63 : decode cX6_wetAll 63 = .ok (.iadd, 1) := by decide +kernel
theorem dX6_wetAll_64 : decode cX6_wetAll 64 = .ok (.istore_n 3, 1) := by decide +kernel
theorem dX6_wetAll_65 : decode cX6_wetAll 65 = .ok (.iinc 4 1, 3) := by decide +kernel
theorem dX6_wetAll_68 : decode cX6_wetAll 68 = .ok (.goto (-63), 3) := by decide +kernel
theorem dX6_wetAll_71 : decode cX6_wetAll 71 = .ok (.iload_n 3, 1) := by decide +kernel
theorem dX6_wetAll_72 : decode cX6_wetAll 72 = .ok (.ireturn, 1) := by decide +kernel
theorem dX6_noMore_0 : decode cX6_noMore 0 = .ok (.iconst 0, 1) := by decide +kernel
theorem dX6_noMore_1 : decode cX6_noMore 1 = .ok (.istore_n 1, 1) := by decide +kernel
theorem dX6_noMore_2 : decode cX6_noMore 2 = .ok (.iload_n 1, 1) := by decide +kernel
theorem dX6_noMore_3 : decode cX6_noMore 3 = .ok (.bipush 6, 2) := by decide +kernel
theorem dX6_noMore_5 : decode cX6_noMore 5 = .ok (.if_icmp .ge 16, 3) := by decide +kernel
theorem dX6_noMore_8 : decode cX6_noMore 8 = .ok (.aload_n 0, 1) := by decide +kernel
theorem dX6_noMore_9 : decode cX6_noMore 9 = .ok (.getfield 89, 3) := by decide +kernel
theorem dX6_noMore_12 : decode cX6_noMore 12 = .ok (.iload_n 1, 1) := by decide +kernel
theorem dX6_noMore_13 : decode cX6_noMore 13 = .ok (.iconst 0, 1) := by decide +kernel
theorem dX6_noMore_14 : decode cX6_noMore 14 = .ok (.iastore, 1) := by decide +kernel
theorem dX6_noMore_15 : decode cX6_noMore 15 = .ok (.iinc 1 1, 3) := by decide +kernel
theorem dX6_noMore_18 : decode cX6_noMore 18 = .ok (.goto (-16), 3) := by decide +kernel
theorem dX6_noMore_21 : decode cX6_noMore 21 = .ok (.return_, 1) := by decide +kernel
theorem dX6_take_0 : decode cX6_take 0 = .ok (.iload_n 1, 1) := by decide +kernel
theorem dX6_take_1 : decode cX6_take 1 = .ok (.istore_n 3, 1) := by decide +kernel
theorem dX6_take_2 : decode cX6_take 2 = .ok (.iconst 0, 1) := by decide +kernel
theorem dX6_take_3 : decode cX6_take 3 = .ok (.istore 4, 2) := by decide +kernel
theorem dX6_take_5 : decode cX6_take 5 = .ok (.iconst 1, 1) := by decide +kernel
theorem dX6_take_6 : decode cX6_take 6 = .ok (.istore 5, 2) := by decide +kernel
theorem dX6_take_8 : decode cX6_take 8 = .ok (.iconst 5, 1) := by decide +kernel
theorem dX6_take_9 : decode cX6_take 9 = .ok (.istore 6, 2) := by decide +kernel
theorem dX6_take_11 : decode cX6_take 11 = .ok (.iload 6, 2) := by decide +kernel
theorem dX6_take_13 : decode cX6_take 13 = .ok (.ifCond .lt 69, 3) := by decide +kernel
theorem dX6_take_16 : decode cX6_take 16 = .ok (.aload_n 0, 1) := by decide +kernel
theorem dX6_take_17 : decode cX6_take 17 = .ok (.getfield 89, 3) := by decide +kernel
theorem dX6_take_20 : decode cX6_take 20 = .ok (.iload 6, 2) := by decide +kernel
theorem dX6_take_22 : decode cX6_take 22 = .ok (.iload_n 3, 1) := by decide +kernel
theorem dX6_take_23 : decode cX6_take 23 = .ok (.bipush 7, 2) := by decide +kernel
theorem dX6_take_25 : decode cX6_take 25 = .ok (.irem, 1) := by decide +kernel
theorem dX6_take_26 : decode cX6_take 26 = .ok (.iastore, 1) := by decide +kernel
theorem dX6_take_27 : decode cX6_take 27 = .ok (.iload_n 3, 1) := by decide +kernel
theorem dX6_take_28 : decode cX6_take 28 = .ok (.bipush 7, 2) := by decide +kernel
theorem dX6_take_30 : decode cX6_take 30 = .ok (.idiv, 1) := by decide +kernel
theorem dX6_take_31 : decode cX6_take 31 = .ok (.istore_n 3, 1) := by decide +kernel
theorem dX6_take_32 : decode cX6_take 32 = .ok (.iload 4, 2) := by decide +kernel
theorem dX6_take_34 : decode cX6_take 34 = .ok (.aload_n 0, 1) := by decide +kernel
theorem dX6_take_35 : decode cX6_take 35 = .ok (.getfield 89, 3) := by decide +kernel
theorem dX6_take_38 : decode cX6_take 38 = .ok (.iload 6, 2) := by decide +kernel
theorem dX6_take_40 : decode cX6_take 40 = .ok (.iaload, 1) := by decide +kernel
theorem dX6_take_41 : decode cX6_take 41 = .ok (.iadd, 1) := by decide +kernel
theorem dX6_take_42 : decode cX6_take 42 = .ok (.istore 4, 2) := by decide +kernel
theorem dX6_take_44 : decode cX6_take 44 = .ok (.iload 5, 2) := by decide +kernel
theorem dX6_take_46 : decode cX6_take 46 = .ok (.ifCond .eq 27, 3) := by decide +kernel
theorem dX6_take_49 : decode cX6_take 49 = .ok (.aload_n 0, 1) := by decide +kernel
theorem dX6_take_50 : decode cX6_take 50 = .ok (.getfield 65, 3) := by decide +kernel
theorem dX6_take_53 : decode cX6_take 53 = .ok (.iload 6, 2) := by decide +kernel
theorem dX6_take_55 : decode cX6_take 55 = .ok (.iaload, 1) := by decide +kernel
theorem dX6_take_56 : decode cX6_take 56 = .ok (.aload_n 0, 1) := by decide +kernel
theorem dX6_take_57 : decode cX6_take 57 = .ok (.getfield 89, 3) := by decide +kernel
theorem dX6_take_60 : decode cX6_take 60 = .ok (.iload 6, 2) := by decide +kernel
theorem dX6_take_62 : decode cX6_take 62 = .ok (.iaload, 1) := by decide +kernel
theorem dX6_take_63 : decode cX6_take 63 = .ok (.iadd, 1) := by decide +kernel
theorem dX6_take_64 : decode cX6_take 64 = .ok (.bipush 9, 2) := by decide +kernel
theorem dX6_take_66 : decode cX6_take 66 = .ok (.if_icmp .gt 7, 3) := by decide +kernel
theorem dX6_take_69 : decode cX6_take 69 = .ok (.iconst 1, 1) := by decide +kernel
theorem dX6_take_70 : decode cX6_take 70 = .ok (.goto 4, 3) := by decide +kernel
theorem dX6_take_73 : decode cX6_take 73 = .ok (.iconst 0, 1) := by decide +kernel
theorem dX6_take_74 : decode cX6_take 74 = .ok (.istore 5, 2) := by decide +kernel
theorem dX6_take_76 : decode cX6_take 76 = .ok (.iinc 6 (-1), 3) := by decide +kernel
theorem dX6_take_79 : decode cX6_take 79 = .ok (.goto (-68), 3) := by decide +kernel
theorem dX6_take_82 : decode cX6_take 82 = .ok (.iload 5, 2) := by decide +kernel
theorem dX6_take_84 : decode cX6_take 84 = .ok (.ifCond .eq 13, 3) := by decide +kernel
theorem dX6_take_87 : decode cX6_take 87 = .ok (.iload 4, 2) := by decide +kernel
theorem dX6_take_89 : decode cX6_take 89 = .ok (.iload_n 2, 1) := by decide +kernel
theorem dX6_take_90 : decode cX6_take 90 = .ok (.if_icmp .ne 7, 3) := by decide +kernel
theorem dX6_take_93 : decode cX6_take 93 = .ok (.iconst 1, 1) := by decide +kernel
theorem dX6_take_94 : decode cX6_take 94 = .ok (.goto 4, 3) := by decide +kernel
theorem dX6_take_97 : decode cX6_take 97 = .ok (.iconst 0, 1) := by decide +kernel
theorem dX6_take_98 : decode cX6_take 98 = .ok (.ireturn, 1) := by decide +kernel
set_option maxRecDepth 20000 in
theorem ggX6_raise_X6_in : GoodIn wsX6_raise wsX6_in := goodIn_r _ [9] (by decide +kernel) (by decide +kernel)
set_option maxRecDepth 20000 in
theorem gX6_raise_X6_in : GoodIn wsX6_raise (va_wsS RX6 109 yX6_in wsX6_in) := goodIn_app (goodIn_of _ (by decide +kernel)) ggX6_raise_X6_in
set_option maxRecDepth 20000 in
theorem ggX6_raise_X6_isHeight : GoodIn wsX6_raise wsX6_isHeight := goodIn_r _ [12, 6, 7, 8, 9] (by decide +kernel) (by decide +kernel)
set_option maxRecDepth 20000 in
theorem gX6_raise_X6_isHeight : GoodIn wsX6_raise (va_wsS RX6 220 yX6_isHeight wsX6_isHeight) := goodIn_app (goodIn_of _ (by decide +kernel)) ggX6_raise_X6_isHeight
set_option maxRecDepth 20000 in
theorem ggX6_raise_X6_isRow : GoodIn wsX6_raise wsX6_isRow := goodIn_r _ [15, 6, 7, 8, 9] (by decide +kernel) (by decide +kernel)
set_option maxRecDepth 20000 in
theorem gX6_raise_X6_isRow : GoodIn wsX6_raise (va_wsS RX6 113 yX6_isRow wsX6_isRow) := goodIn_app (goodIn_of _ (by decide +kernel)) ggX6_raise_X6_isRow
set_option maxRecDepth 20000 in
theorem ggX6_raise_X6_take : GoodIn wsX6_raise wsX6_take := goodIn_r _ [19, 5, 1, 33, 34, 35, 36, 37, 38, 39, 40, 41, 42, 43, 44, 45, 46, 47, 48, 49, 50, 51, 52, 53, 54, 55, 56, 57, 58, 59, 60, 61, 62, 63, 64, 65, 66, 67, 68, 69, 70, 71, 72, 73, 74] (by decide +kernel) (by decide +kernel)
set_option maxRecDepth 20000 in
theorem gX6_raise_X6_take : GoodIn wsX6_raise (wsV RX6 251 RX6 yX6_take wsX6_take) := goodIn_app (goodIn_of _ (by decide +kernel)) ggX6_raise_X6_take
set_option maxRecDepth 20000 in
theorem ggX6_raise_X6_wetAll : GoodIn wsX6_raise wsX6_wetAll := goodIn_r _ [23, 2, 24, 1, 5, 25, 26, 8, 27, 33, 34, 35, 36, 37, 38, 39, 40, 41, 42, 43, 44, 45, 46, 47, 48, 49, 50, 51, 52, 53, 54, 55, 56, 57, 58, 59, 60, 61, 62, 63, 64, 65, 66, 67, 68, 69, 70, 71, 72, 73, 74] (by decide +kernel) (by decide +kernel)
set_option maxRecDepth 20000 in
theorem gX6_raise_X6_wetAll : GoodIn wsX6_raise (wsV RX6 254 RX6 yX6_wetAll wsX6_wetAll) := goodIn_app (goodIn_of _ (by decide +kernel)) ggX6_raise_X6_wetAll
set_option maxRecDepth 20000 in
theorem ggX6_raise_X6_clearRow : GoodIn wsX6_raise wsX6_clearRow := goodIn_r _ [31, 32, 4, 33, 34, 35, 36, 37, 38, 39, 40, 41, 42, 43, 44, 45, 46, 47, 48, 49, 50, 51, 52, 53, 54, 55, 56, 57, 58, 59, 60, 61, 62, 63, 64, 65, 66, 67, 68, 69, 70, 71, 72, 73, 74] (by decide +kernel) (by decide +kernel)
set_option maxRecDepth 20000 in
theorem gX6_raise_X6_clearRow : GoodIn wsX6_raise (wsV RX6 121 RX6 yX6_clearRow wsX6_clearRow) := goodIn_app (goodIn_of _ (by decide +kernel)) ggX6_raise_X6_clearRow
theorem dX6_raise_0 : decode cX6_raise 0 = .ok (.iload_n 1, 1) := by decide +kernel
theorem dX6_raise_1 : decode cX6_raise 1 = .ok (.iconst 0, 1) := by decide +kernel
theorem dX6_raise_2 : decode cX6_raise 2 = .ok (.bipush 6, 2) := by decide +kernel
theorem dX6_raise_4 : decode cX6_raise 4 = .ok (.invokestatic 109, 3) := by decide +kernel
theorem dX6_raise_7 : decode cX6_raise 7 = .ok (.ifCond .eq 17, 3) := by decide +kernel
theorem dX6_raise_10 : decode cX6_raise 10 = .ok (.iload_n 2, 1) := by decide +kernel
theorem dX6_raise_11 : decode cX6_raise 11 = .ok (.invokestatic 220, 3) := by decide +kernel
theorem dX6_raise_14 : decode cX6_raise 14 = .ok (.ifCond .eq 10, 3) := by decide +kernel
theorem dX6_raise_17 : decode cX6_raise 17 = .ok (.iload_n 3, 1) := by decide +kernel
theorem dX6_raise_18 : decode cX6_raise 18 = .ok (.invokestatic 113, 3) := by decide +kernel
theorem dX6_raise_21 : decode cX6_raise 21 = .ok (.ifCond .ne 5, 3) := by decide +kernel
theorem dX6_raise_24 : decode cX6_raise 24 = .ok (.iconst (-1), 1) := by decide +kernel
theorem dX6_raise_25 : decode cX6_raise 25 = .ok (.ireturn, 1) := by decide +kernel
theorem dX6_raise_26 : decode cX6_raise 26 = .ok (.iconst 0, 1) := by decide +kernel
theorem dX6_raise_27 : decode cX6_raise 27 = .ok (.istore 4, 2) := by decide +kernel
theorem dX6_raise_29 : decode cX6_raise 29 = .ok (.iconst 0, 1) := by decide +kernel
theorem dX6_raise_30 : decode cX6_raise 30 = .ok (.istore 5, 2) := by decide +kernel
theorem dX6_raise_32 : decode cX6_raise 32 = .ok (.iload 5, 2) := by decide +kernel
theorem dX6_raise_34 : decode cX6_raise 34 = .ok (.bipush 6, 2) := by decide +kernel
theorem dX6_raise_36 : decode cX6_raise 36 = .ok (.if_icmp .ge 24, 3) := by decide +kernel
theorem dX6_raise_39 : decode cX6_raise 39 = .ok (.iload 4, 2) := by decide +kernel
theorem dX6_raise_41 : decode cX6_raise 41 = .ok (.bipush 9, 2) := by decide +kernel
theorem dX6_raise_43 : decode cX6_raise 43 = .ok (.aload_n 0, 1) := by decide +kernel
theorem dX6_raise_44 : decode cX6_raise 44 = .ok (.getfield 65, 3) := by decide +kernel
theorem dX6_raise_47 : decode cX6_raise 47 = .ok (.iload 5, 2) := by decide +kernel
theorem dX6_raise_49 : decode cX6_raise 49 = .ok (.iaload, 1) := by decide +kernel
theorem dX6_raise_50 : decode cX6_raise 50 = .ok (.isub, 1) := by decide +kernel
theorem dX6_raise_51 : decode cX6_raise 51 = .ok (.iadd, 1) := by decide +kernel
theorem dX6_raise_52 : decode cX6_raise 52 = .ok (.istore 4, 2) := by decide +kernel
theorem dX6_raise_54 : decode cX6_raise 54 = .ok (.iinc 5 1, 3) := by decide +kernel
theorem dX6_raise_57 : decode cX6_raise 57 = .ok (.goto (-25), 3) := by decide +kernel
theorem dX6_raise_60 : decode cX6_raise 60 = .ok (.aload_n 0, 1) := by decide +kernel
theorem dX6_raise_61 : decode cX6_raise 61 = .ok (.getfield 167, 3) := by decide +kernel
theorem dX6_raise_64 : decode cX6_raise 64 = .ok (.ifCond .eq 9, 3) := by decide +kernel
theorem dX6_raise_67 : decode cX6_raise 67 = .ok (.iload 4, 2) := by decide +kernel
theorem dX6_raise_69 : decode cX6_raise 69 = .ok (.iload_n 1, 1) := by decide +kernel
theorem dX6_raise_70 : decode cX6_raise 70 = .ok (.if_icmp .ge 6, 3) := by decide +kernel
theorem dX6_raise_73 : decode cX6_raise 73 = .ok (.bipush (-4), 2) := by decide +kernel
theorem dX6_raise_75 : decode cX6_raise 75 = .ok (.ireturn, 1) := by decide +kernel
theorem dX6_raise_76 : decode cX6_raise 76 = .ok (.bipush (-9), 2) := by decide +kernel
theorem dX6_raise_78 : decode cX6_raise 78 = .ok (.istore 5, 2) := by decide +kernel
theorem dX6_raise_80 : decode cX6_raise 80 = .ok (.iconst 0, 1) := by decide +kernel
theorem dX6_raise_81 : decode cX6_raise 81 = .ok (.istore 6, 2) := by decide +kernel
theorem dX6_raise_83 : decode cX6_raise 83 = .ok (.iconst 0, 1) := by decide +kernel
theorem dX6_raise_84 : decode cX6_raise 84 = .ok (.istore 7, 2) := by decide +kernel
theorem dX6_raise_86 : decode cX6_raise 86 = .ok (.iload 7, 2) := by decide +kernel
theorem dX6_raise_88 : decode cX6_raise 88 = .ok (.ldc 250, 2) := by decide +kernel
theorem dX6_raise_90 : decode cX6_raise 90 = .ok (.if_icmp .ge 50, 3) := by decide +kernel
theorem dX6_raise_93 : decode cX6_raise 93 = .ok (.aload_n 0, 1) := by decide +kernel
theorem dX6_raise_94 : decode cX6_raise 94 = .ok (.iload 7, 2) := by decide +kernel
theorem dX6_raise_96 : decode cX6_raise 96 = .ok (.iload_n 1, 1) := by decide +kernel
theorem dX6_raise_97 : decode cX6_raise 97 = .ok (.invokevirtual 251, 3) := by decide +kernel
theorem dX6_raise_100 : decode cX6_raise 100 = .ok (.ifCond .eq 34, 3) := by decide +kernel
theorem dX6_raise_103 : decode cX6_raise 103 = .ok (.aload_n 0, 1) := by decide +kernel
theorem dX6_raise_104 : decode cX6_raise 104 = .ok (.iload_n 2, 1) := by decide +kernel
theorem dX6_raise_105 : decode cX6_raise 105 = .ok (.bipush 63, 2) := by decide +kernel
theorem dX6_raise_107 : decode cX6_raise 107 = .ok (.invokevirtual 254, 3) := by decide +kernel
theorem dX6_raise_110 : decode cX6_raise 110 = .ok (.istore 8, 2) := by decide +kernel
theorem dX6_raise_112 : decode cX6_raise 112 = .ok (.iload 5, 2) := by decide +kernel
theorem dX6_raise_114 : decode cX6_raise 114 = .ok (.bipush (-9), 2) := by decide +kernel
theorem dX6_raise_116 : decode cX6_raise 116 = .ok (.if_icmp .eq 10, 3) := by decide +kernel
theorem dX6_raise_119 : decode cX6_raise 119 = .ok (.iload 8, 2) := by decide +kernel
theorem dX6_raise_121 : decode cX6_raise 121 = .ok (.iload 6, 2) := by decide +kernel
theorem dX6_raise_123 : decode cX6_raise 123 = .ok (.if_icmp .ge 11, 3) := by decide +kernel
theorem dX6_raise_126 : decode cX6_raise 126 = .ok (.iload 7, 2) := by decide +kernel
theorem dX6_raise_128 : decode cX6_raise 128 = .ok (.istore 5, 2) := by decide +kernel
theorem dX6_raise_130 : decode cX6_raise 130 = .ok (.iload 8, 2) := by decide +kernel
theorem dX6_raise_132 : decode cX6_raise 132 = .ok (.istore 6, 2) := by decide +kernel
theorem dX6_raise_134 : decode cX6_raise 134 = .ok (.iinc 7 1, 3) := by decide +kernel
theorem dX6_raise_137 : decode cX6_raise 137 = .ok (.goto (-51), 3) := by decide +kernel
theorem dX6_raise_140 : decode cX6_raise 140 = .ok (.aload_n 0, 1) := by decide +kernel
theorem dX6_raise_141 : decode cX6_raise 141 = .ok (.iload 5, 2) := by decide +kernel
theorem dX6_raise_143 : decode cX6_raise 143 = .ok (.iload_n 1, 1) := by decide +kernel
theorem dX6_raise_144 : decode cX6_raise 144 = .ok (.invokevirtual 251, 3) := by decide +kernel
theorem dX6_raise_147 : decode cX6_raise 147 = .ok (.pop, 1) := by decide +kernel
theorem dX6_raise_148 : decode cX6_raise 148 = .ok (.aload_n 0, 1) := by decide +kernel
theorem dX6_raise_149 : decode cX6_raise 149 = .ok (.iload_n 3, 1) := by decide +kernel
theorem dX6_raise_150 : decode cX6_raise 150 = .ok (.bipush 6, 2) := by decide +kernel
theorem dX6_raise_152 : decode cX6_raise 152 = .ok (.invokevirtual 121, 3) := by decide +kernel
theorem dX6_raise_155 : decode cX6_raise 155 = .ok (.iconst 0, 1) := by decide +kernel
theorem dX6_raise_156 : decode cX6_raise 156 = .ok (.istore 7, 2) := by decide +kernel
theorem dX6_raise_158 : decode cX6_raise 158 = .ok (.iload 7, 2) := by decide +kernel
theorem dX6_raise_160 : decode cX6_raise 160 = .ok (.bipush 6, 2) := by decide +kernel
theorem dX6_raise_162 : decode cX6_raise 162 = .ok (.if_icmp .ge 28, 3) := by decide +kernel
theorem dX6_raise_165 : decode cX6_raise 165 = .ok (.aload_n 0, 1) := by decide +kernel
theorem dX6_raise_166 : decode cX6_raise 166 = .ok (.getfield 13, 3) := by decide +kernel
theorem dX6_raise_169 : decode cX6_raise 169 = .ok (.bipush 40, 2) := by decide +kernel
theorem dX6_raise_171 : decode cX6_raise 171 = .ok (.iload_n 3, 1) := by decide +kernel
theorem dX6_raise_172 : decode cX6_raise 172 = .ok (.imul, 1) := by decide +kernel
theorem dX6_raise_173 : decode cX6_raise 173 = .ok (.iload 7, 2) := by decide +kernel
theorem dX6_raise_175 : decode cX6_raise 175 = .ok (.iadd, 1) := by decide +kernel
theorem dX6_raise_176 : decode cX6_raise 176 = .ok (.aload_n 0, 1) := by decide +kernel
theorem dX6_raise_177 : decode cX6_raise 177 = .ok (.getfield 89, 3) := by decide +kernel
theorem dX6_raise_180 : decode cX6_raise 180 = .ok (.iload 7, 2) := by decide +kernel
theorem dX6_raise_182 : decode cX6_raise 182 = .ok (.iaload, 1) := by decide +kernel
theorem dX6_raise_183 : decode cX6_raise 183 = .ok (.iastore, 1) := by decide +kernel
theorem dX6_raise_184 : decode cX6_raise 184 = .ok (.iinc 7 1, 3) := by decide +kernel
theorem dX6_raise_187 : decode cX6_raise 187 = .ok (.goto (-29), 3) := by decide +kernel
theorem dX6_raise_190 : decode cX6_raise 190 = .ok (.iload 6, 2) := by decide +kernel
theorem dX6_raise_192 : decode cX6_raise 192 = .ok (.ireturn, 1) := by decide +kernel
set_option maxRecDepth 20000 in
theorem ggX6_dry_X6_less : GoodIn wsX6_dry wsX6_less := goodIn_r _ [7] (by decide +kernel) (by decide +kernel)
set_option maxRecDepth 20000 in
theorem gX6_dry_X6_less : GoodIn wsX6_dry (va_wsS RX6 179 yX6_less wsX6_less) := goodIn_app (goodIn_of _ (by decide +kernel)) ggX6_dry_X6_less
theorem dX6_dry_0 : decode cX6_dry 0 = .ok (.aload_n 0, 1) := by decide +kernel
theorem dX6_dry_1 : decode cX6_dry 1 = .ok (.getfield 167, 3) := by decide +kernel
theorem dX6_dry_4 : decode cX6_dry 4 = .ok (.ifCond .ne 6, 3) := by decide +kernel
theorem dX6_dry_7 : decode cX6_dry 7 = .ok (.bipush (-4), 2) := by decide +kernel
theorem dX6_dry_9 : decode cX6_dry 9 = .ok (.ireturn, 1) := by decide +kernel
theorem dX6_dry_10 : decode cX6_dry 10 = .ok (.bipush 9, 2) := by decide +kernel
theorem dX6_dry_12 : decode cX6_dry 12 = .ok (.istore_n 1, 1) := by decide +kernel
theorem dX6_dry_13 : decode cX6_dry 13 = .ok (.iconst 0, 1) := by decide +kernel
theorem dX6_dry_14 : decode cX6_dry 14 = .ok (.istore_n 2, 1) := by decide +kernel
theorem dX6_dry_15 : decode cX6_dry 15 = .ok (.iload_n 2, 1) := by decide +kernel
theorem dX6_dry_16 : decode cX6_dry 16 = .ok (.aload_n 0, 1) := by decide +kernel
theorem dX6_dry_17 : decode cX6_dry 17 = .ok (.getfield 167, 3) := by decide +kernel
theorem dX6_dry_20 : decode cX6_dry 20 = .ok (.if_icmp .ge 25, 3) := by decide +kernel
theorem dX6_dry_23 : decode cX6_dry 23 = .ok (.iload_n 1, 1) := by decide +kernel
theorem dX6_dry_24 : decode cX6_dry 24 = .ok (.aload_n 0, 1) := by decide +kernel
theorem dX6_dry_25 : decode cX6_dry 25 = .ok (.getfield 65, 3) := by decide +kernel
theorem dX6_dry_28 : decode cX6_dry 28 = .ok (.aload_n 0, 1) := by decide +kernel
theorem dX6_dry_29 : decode cX6_dry 29 = .ok (.getfield 59, 3) := by decide +kernel
theorem dX6_dry_32 : decode cX6_dry 32 = .ok (.iload_n 2, 1) := by decide +kernel
theorem dX6_dry_33 : decode cX6_dry 33 = .ok (.iaload, 1) := by decide +kernel
theorem dX6_dry_34 : decode cX6_dry 34 = .ok (.iaload, 1) := by decide +kernel
theorem dX6_dry_35 : decode cX6_dry 35 = .ok (.invokestatic 179, 3) := by decide +kernel
theorem dX6_dry_38 : decode cX6_dry 38 = .ok (.istore_n 1, 1) := by decide +kernel
theorem dX6_dry_39 : decode cX6_dry 39 = .ok (.iinc 2 1, 3) := by decide +kernel
theorem dX6_dry_42 : decode cX6_dry 42 = .ok (.goto (-27), 3) := by decide +kernel
theorem dX6_dry_45 : decode cX6_dry 45 = .ok (.iload_n 1, 1) := by decide +kernel
theorem dX6_dry_46 : decode cX6_dry 46 = .ok (.ireturn, 1) := by decide +kernel
set_option maxRecDepth 20000 in
theorem ggX6_least_X6_isWoman : GoodIn wsX6_least wsX6_isWoman := goodIn_r _ [7, 8, 9, 10, 6, 11, 18, 19, 20, 21, 22, 23, 24, 25, 26, 27, 28, 29, 30, 31, 32, 33, 34, 35, 36, 37, 38, 39, 40, 41, 42, 43, 44, 45, 46, 47, 48, 49, 50, 51, 52, 53, 54, 55, 56, 57, 58, 59] (by decide +kernel) (by decide +kernel)
set_option maxRecDepth 20000 in
theorem gX6_least_X6_isWoman : GoodIn wsX6_least (wsV RX6 203 RX6 yX6_isWoman wsX6_isWoman) := goodIn_app (goodIn_of _ (by decide +kernel)) ggX6_least_X6_isWoman
set_option maxRecDepth 20000 in
theorem ggX6_least_X6_isHeight : GoodIn wsX6_least wsX6_isHeight := goodIn_r _ [14, 9, 10, 6, 11] (by decide +kernel) (by decide +kernel)
set_option maxRecDepth 20000 in
theorem gX6_least_X6_isHeight : GoodIn wsX6_least (va_wsS RX6 220 yX6_isHeight wsX6_isHeight) := goodIn_app (goodIn_of _ (by decide +kernel)) ggX6_least_X6_isHeight
set_option maxRecDepth 20000 in
theorem ggX6_least_X6_wet : GoodIn wsX6_least wsX6_wet := goodIn_r _ [17] (by decide +kernel) (by decide +kernel)
set_option maxRecDepth 20000 in
theorem gX6_least_X6_wet : GoodIn wsX6_least (va_wsS RX6 182 yX6_wet wsX6_wet) := goodIn_app (goodIn_of _ (by decide +kernel)) ggX6_least_X6_wet
theorem dX6_least_0 : decode cX6_least 0 = .ok (.aload_n 0, 1) := by decide +kernel
theorem dX6_least_1 : decode cX6_least 1 = .ok (.iload_n 1, 1) := by decide +kernel
theorem dX6_least_2 : decode cX6_least 2 = .ok (.invokevirtual 203, 3) := by decide +kernel
theorem dX6_least_5 : decode cX6_least 5 = .ok (.ifCond .eq 17, 3) := by decide +kernel
theorem dX6_least_8 : decode cX6_least 8 = .ok (.iload_n 2, 1) := by decide +kernel
theorem dX6_least_9 : decode cX6_least 9 = .ok (.invokestatic 220, 3) := by decide +kernel
theorem dX6_least_12 : decode cX6_least 12 = .ok (.ifCond .eq 10, 3) := by decide +kernel
theorem dX6_least_15 : decode cX6_least 15 = .ok (.iload_n 3, 1) := by decide +kernel
theorem dX6_least_16 : decode cX6_least 16 = .ok (.invokestatic 220, 3) := by decide +kernel
theorem dX6_least_19 : decode cX6_least 19 = .ok (.ifCond .ne 5, 3) := by decide +kernel
theorem dX6_least_22 : decode cX6_least 22 = .ok (.iconst (-1), 1) := by decide +kernel
theorem dX6_least_23 : decode cX6_least 23 = .ok (.ireturn, 1) := by decide +kernel
theorem dX6_least_24 : decode cX6_least 24 = .ok (.iload_n 2, 1) := by decide +kernel
theorem dX6_least_25 : decode cX6_least 25 = .ok (.iload_n 3, 1) := by decide +kernel
theorem dX6_least_26 : decode cX6_least 26 = .ok (.isub, 1) := by decide +kernel
theorem dX6_least_27 : decode cX6_least 27 = .ok (.aload_n 0, 1) := by decide +kernel
theorem dX6_least_28 : decode cX6_least 28 = .ok (.getfield 65, 3) := by decide +kernel
theorem dX6_least_31 : decode cX6_least 31 = .ok (.aload_n 0, 1) := by decide +kernel
theorem dX6_least_32 : decode cX6_least 32 = .ok (.getfield 59, 3) := by decide +kernel
theorem dX6_least_35 : decode cX6_least 35 = .ok (.iload_n 1, 1) := by decide +kernel
theorem dX6_least_36 : decode cX6_least 36 = .ok (.iaload, 1) := by decide +kernel
theorem dX6_least_37 : decode cX6_least 37 = .ok (.iaload, 1) := by decide +kernel
theorem dX6_least_38 : decode cX6_least 38 = .ok (.invokestatic 182, 3) := by decide +kernel
theorem dX6_least_41 : decode cX6_least 41 = .ok (.istore 4, 2) := by decide +kernel
theorem dX6_least_43 : decode cX6_least 43 = .ok (.aload_n 0, 1) := by decide +kernel
theorem dX6_least_44 : decode cX6_least 44 = .ok (.getfield 65, 3) := by decide +kernel
theorem dX6_least_47 : decode cX6_least 47 = .ok (.aload_n 0, 1) := by decide +kernel
theorem dX6_least_48 : decode cX6_least 48 = .ok (.getfield 59, 3) := by decide +kernel
theorem dX6_least_51 : decode cX6_least 51 = .ok (.iload_n 1, 1) := by decide +kernel
theorem dX6_least_52 : decode cX6_least 52 = .ok (.iaload, 1) := by decide +kernel
theorem dX6_least_53 : decode cX6_least 53 = .ok (.iaload, 1) := by decide +kernel
theorem dX6_least_54 : decode cX6_least 54 = .ok (.iload 4, 2) := by decide +kernel
theorem dX6_least_56 : decode cX6_least 56 = .ok (.iadd, 1) := by decide +kernel
