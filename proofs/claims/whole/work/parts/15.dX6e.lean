theorem dX6_least_57 : decode cX6_least 57 = .ok (.bipush 9, 2) := by decide +kernel
theorem dX6_least_59 : decode cX6_least 59 = .ok (.if_icmp .le 8, 3) := by decide +kernel
theorem dX6_least_62 : decode cX6_least 62 = .ok (.bipush (-9), 2) := by decide +kernel
theorem dX6_least_64 : decode cX6_least 64 = .ok (.goto 5, 3) := by decide +kernel
theorem dX6_least_67 : decode cX6_least 67 = .ok (.iload 4, 2) := by decide +kernel
theorem dX6_least_69 : decode cX6_least 69 = .ok (.ireturn, 1) := by decide +kernel
set_option maxRecDepth 20000 in
theorem ggX6_worthOf_X6_noMore : GoodIn wsX6_worthOf wsX6_noMore := goodIn_r _ [8, 2, 21, 22, 23, 24, 25, 26, 27, 28, 29, 30, 31, 32, 33, 34, 35, 36, 37, 38, 39, 40, 41, 42, 43, 44, 45, 46, 47, 48, 49, 50, 51, 52, 53, 54, 55, 56, 57, 58, 59, 60, 61, 62] (by decide +kernel) (by decide +kernel)
set_option maxRecDepth 20000 in
theorem gX6_worthOf_X6_noMore : GoodIn wsX6_worthOf (wsV RX6 257 RX6 yX6_noMore wsX6_noMore) := goodIn_app (goodIn_of _ (by decide +kernel)) ggX6_worthOf_X6_noMore
set_option maxRecDepth 20000 in
theorem ggX6_worthOf_X6_less : GoodIn wsX6_worthOf wsX6_less := goodIn_r _ [11] (by decide +kernel) (by decide +kernel)
set_option maxRecDepth 20000 in
theorem gX6_worthOf_X6_less : GoodIn wsX6_worthOf (va_wsS RX6 179 yX6_less wsX6_less) := goodIn_app (goodIn_of _ (by decide +kernel)) ggX6_worthOf_X6_less
set_option maxRecDepth 20000 in
theorem ggX6_worthOf_X6_wetAll : GoodIn wsX6_worthOf wsX6_wetAll := goodIn_r _ [15, 16, 17, 1, 2, 18, 19, 7, 20, 21, 22, 23, 24, 25, 26, 27, 28, 29, 30, 31, 32, 33, 34, 35, 36, 37, 38, 39, 40, 41, 42, 43, 44, 45, 46, 47, 48, 49, 50, 51, 52, 53, 54, 55, 56, 57, 58, 59, 60, 61, 62] (by decide +kernel) (by decide +kernel)
set_option maxRecDepth 20000 in
theorem gX6_worthOf_X6_wetAll : GoodIn wsX6_worthOf (wsV RX6 254 RX6 yX6_wetAll wsX6_wetAll) := goodIn_app (goodIn_of _ (by decide +kernel)) ggX6_worthOf_X6_wetAll
theorem dX6_worthOf_0 : decode cX6_worthOf 0 = .ok (.aload_n 0, 1) := by decide +kernel
theorem dX6_worthOf_1 : decode cX6_worthOf 1 = .ok (.invokevirtual 257, 3) := by decide +kernel
theorem dX6_worthOf_4 : decode cX6_worthOf 4 = .ok (.iconst 0, 1) := by decide +kernel
theorem dX6_worthOf_5 : decode cX6_worthOf 5 = .ok (.istore 4, 2) := by decide +kernel
theorem dX6_worthOf_7 : decode cX6_worthOf 7 = .ok (.iconst 1, 1) := by decide +kernel
theorem dX6_worthOf_8 : decode cX6_worthOf 8 = .ok (.istore 5, 2) := by decide +kernel
theorem dX6_worthOf_10 : decode cX6_worthOf 10 = .ok (.iconst 0, 1) := by decide +kernel
theorem dX6_worthOf_11 : decode cX6_worthOf 11 = .ok (.istore 6, 2) := by decide +kernel
theorem dX6_worthOf_13 : decode cX6_worthOf 13 = .ok (.iload 6, 2) := by decide +kernel
theorem dX6_worthOf_15 : decode cX6_worthOf 15 = .ok (.iload_n 2, 1) := by decide +kernel
theorem dX6_worthOf_16 : decode cX6_worthOf 16 = .ok (.if_icmp .ge 93, 3) := by decide +kernel
theorem dX6_worthOf_19 : decode cX6_worthOf 19 = .ok (.iload_n 1, 1) := by decide +kernel
theorem dX6_worthOf_20 : decode cX6_worthOf 20 = .ok (.iconst 2, 1) := by decide +kernel
theorem dX6_worthOf_21 : decode cX6_worthOf 21 = .ok (.iload_n 2, 1) := by decide +kernel
theorem dX6_worthOf_22 : decode cX6_worthOf 22 = .ok (.iconst 1, 1) := by decide +kernel
theorem dX6_worthOf_23 : decode cX6_worthOf 23 = .ok (.isub, 1) := by decide +kernel
theorem dX6_worthOf_24 : decode cX6_worthOf 24 = .ok (.iload 6, 2) := by decide +kernel
theorem dX6_worthOf_26 : decode cX6_worthOf 26 = .ok (.isub, 1) := by decide +kernel
theorem dX6_worthOf_27 : decode cX6_worthOf 27 = .ok (.imul, 1) := by decide +kernel
theorem dX6_worthOf_28 : decode cX6_worthOf 28 = .ok (.ishr, 1) := by decide +kernel
theorem dX6_worthOf_29 : decode cX6_worthOf 29 = .ok (.iconst 3, 1) := by decide +kernel
theorem dX6_worthOf_30 : decode cX6_worthOf 30 = .ok (.iand, 1) := by decide +kernel
theorem dX6_worthOf_31 : decode cX6_worthOf 31 = .ok (.istore 7, 2) := by decide +kernel
theorem dX6_worthOf_33 : decode cX6_worthOf 33 = .ok (.iload 6, 2) := by decide +kernel
theorem dX6_worthOf_35 : decode cX6_worthOf 35 = .ok (.iconst 2, 1) := by decide +kernel
theorem dX6_worthOf_36 : decode cX6_worthOf 36 = .ok (.irem, 1) := by decide +kernel
theorem dX6_worthOf_37 : decode cX6_worthOf 37 = .ok (.ifCond .ne 8, 3) := by decide +kernel
theorem dX6_worthOf_40 : decode cX6_worthOf 40 = .ok (.iload 7, 2) := by decide +kernel
theorem dX6_worthOf_42 : decode cX6_worthOf 42 = .ok (.goto 7, 3) := by decide +kernel
theorem dX6_worthOf_45 : decode cX6_worthOf 45 = .ok (.iconst 3, 1) := by decide +kernel
theorem dX6_worthOf_46 : decode cX6_worthOf 46 = .ok (.iload 7, 2) := by decide +kernel
theorem dX6_worthOf_48 : decode cX6_worthOf 48 = .ok (.iadd, 1) := by decide +kernel
theorem dX6_worthOf_49 : decode cX6_worthOf 49 = .ok (.istore 8, 2) := by decide +kernel
theorem dX6_worthOf_51 : decode cX6_worthOf 51 = .ok (.iload 7, 2) := by decide +kernel
theorem dX6_worthOf_53 : decode cX6_worthOf 53 = .ok (.iconst 3, 1) := by decide +kernel
theorem dX6_worthOf_54 : decode cX6_worthOf 54 = .ok (.if_icmp .ge 49, 3) := by decide +kernel
theorem dX6_worthOf_57 : decode cX6_worthOf 57 = .ok (.iload 5, 2) := by decide +kernel
theorem dX6_worthOf_59 : decode cX6_worthOf 59 = .ok (.ifCond .eq 27, 3) := by decide +kernel
theorem dX6_worthOf_62 : decode cX6_worthOf 62 = .ok (.aload_n 0, 1) := by decide +kernel
theorem dX6_worthOf_63 : decode cX6_worthOf 63 = .ok (.getfield 65, 3) := by decide +kernel
theorem dX6_worthOf_66 : decode cX6_worthOf 66 = .ok (.iload 8, 2) := by decide +kernel
theorem dX6_worthOf_68 : decode cX6_worthOf 68 = .ok (.iaload, 1) := by decide +kernel
theorem dX6_worthOf_69 : decode cX6_worthOf 69 = .ok (.aload_n 0, 1) := by decide +kernel
theorem dX6_worthOf_70 : decode cX6_worthOf 70 = .ok (.getfield 89, 3) := by decide +kernel
theorem dX6_worthOf_73 : decode cX6_worthOf 73 = .ok (.iload 8, 2) := by decide +kernel
theorem dX6_worthOf_75 : decode cX6_worthOf 75 = .ok (.iaload, 1) := by decide +kernel
theorem dX6_worthOf_76 : decode cX6_worthOf 76 = .ok (.iadd, 1) := by decide +kernel
theorem dX6_worthOf_77 : decode cX6_worthOf 77 = .ok (.bipush 9, 2) := by decide +kernel
theorem dX6_worthOf_79 : decode cX6_worthOf 79 = .ok (.if_icmp .ge 7, 3) := by decide +kernel
theorem dX6_worthOf_82 : decode cX6_worthOf 82 = .ok (.iconst 1, 1) := by decide +kernel
theorem dX6_worthOf_83 : decode cX6_worthOf 83 = .ok (.goto 4, 3) := by decide +kernel
theorem dX6_worthOf_86 : decode cX6_worthOf 86 = .ok (.iconst 0, 1) := by decide +kernel
theorem dX6_worthOf_87 : decode cX6_worthOf 87 = .ok (.istore 5, 2) := by decide +kernel
theorem dX6_worthOf_89 : decode cX6_worthOf 89 = .ok (.aload_n 0, 1) := by decide +kernel
theorem dX6_worthOf_90 : decode cX6_worthOf 90 = .ok (.getfield 89, 3) := by decide +kernel
theorem dX6_worthOf_93 : decode cX6_worthOf 93 = .ok (.iload 8, 2) := by decide +kernel
theorem dX6_worthOf_95 : decode cX6_worthOf 95 = .ok (.dup2, 1) := by decide +kernel
theorem dX6_worthOf_96 : decode cX6_worthOf 96 = .ok (.iaload, 1) := by decide +kernel
theorem dX6_worthOf_97 : decode cX6_worthOf 97 = .ok (.iconst 1, 1) := by decide +kernel
theorem dX6_worthOf_98 : decode cX6_worthOf 98 = .ok (.iadd, 1) := by decide +kernel
theorem dX6_worthOf_99 : decode cX6_worthOf 99 = .ok (.iastore, 1) := by decide +kernel
theorem dX6_worthOf_100 : decode cX6_worthOf 100 = .ok (.iinc 4 1, 3) := by decide +kernel
theorem dX6_worthOf_103 : decode cX6_worthOf 103 = .ok (.iinc 6 1, 3) := by decide +kernel
theorem dX6_worthOf_106 : decode cX6_worthOf 106 = .ok (.goto (-93), 3) := by decide +kernel
theorem dX6_worthOf_109 : decode cX6_worthOf 109 = .ok (.bipush 20, 2) := by decide +kernel
theorem dX6_worthOf_111 : decode cX6_worthOf 111 = .ok (.iload_n 3, 1) := by decide +kernel
theorem dX6_worthOf_112 : decode cX6_worthOf 112 = .ok (.iload 4, 2) := by decide +kernel
theorem dX6_worthOf_114 : decode cX6_worthOf 114 = .ok (.iadd, 1) := by decide +kernel
theorem dX6_worthOf_115 : decode cX6_worthOf 115 = .ok (.invokestatic 179, 3) := by decide +kernel
theorem dX6_worthOf_118 : decode cX6_worthOf 118 = .ok (.istore 6, 2) := by decide +kernel
theorem dX6_worthOf_120 : decode cX6_worthOf 120 = .ok (.iload 5, 2) := by decide +kernel
theorem dX6_worthOf_122 : decode cX6_worthOf 122 = .ok (.ifCond .eq 23, 3) := by decide +kernel
theorem dX6_worthOf_125 : decode cX6_worthOf 125 = .ok (.aload_n 0, 1) := by decide +kernel
theorem dX6_worthOf_126 : decode cX6_worthOf 126 = .ok (.iload 6, 2) := by decide +kernel
theorem dX6_worthOf_128 : decode cX6_worthOf 128 = .ok (.bipush 56, 2) := by decide +kernel
theorem dX6_worthOf_130 : decode cX6_worthOf 130 = .ok (.invokevirtual 254, 3) := by decide +kernel
theorem dX6_worthOf_133 : decode cX6_worthOf 133 = .ok (.aload_n 0, 1) := by decide +kernel
theorem dX6_worthOf_134 : decode cX6_worthOf 134 = .ok (.iload 6, 2) := by decide +kernel
theorem dX6_worthOf_136 : decode cX6_worthOf 136 = .ok (.bipush 7, 2) := by decide +kernel
theorem dX6_worthOf_138 : decode cX6_worthOf 138 = .ok (.invokevirtual 254, 3) := by decide +kernel
theorem dX6_worthOf_141 : decode cX6_worthOf 141 = .ok (.isub, 1) := by decide +kernel
theorem dX6_worthOf_142 : decode cX6_worthOf 142 = .ok (.goto 6, 3) := by decide +kernel
theorem dX6_worthOf_145 : decode cX6_worthOf 145 = .ok (.ldc_w 260, 3) := by decide +kernel
theorem dX6_worthOf_148 : decode cX6_worthOf 148 = .ok (.ireturn, 1) := by decide +kernel
set_option maxRecDepth 20000 in
theorem ggX6_duel_X6_in : GoodIn wsX6_duel wsX6_in := goodIn_r _ [7] (by decide +kernel) (by decide +kernel)
set_option maxRecDepth 20000 in
theorem gX6_duel_X6_in : GoodIn wsX6_duel (va_wsS RX6 109 yX6_in wsX6_in) := goodIn_app (goodIn_of _ (by decide +kernel)) ggX6_duel_X6_in
set_option maxRecDepth 20000 in
theorem ggX6_duel_X6_isHeight : GoodIn wsX6_duel wsX6_isHeight := goodIn_r _ [10, 4, 5, 6, 7] (by decide +kernel) (by decide +kernel)
set_option maxRecDepth 20000 in
theorem gX6_duel_X6_isHeight : GoodIn wsX6_duel (va_wsS RX6 220 yX6_isHeight wsX6_isHeight) := goodIn_app (goodIn_of _ (by decide +kernel)) ggX6_duel_X6_isHeight
set_option maxRecDepth 20000 in
theorem ggX6_duel_X6_worthOf : GoodIn wsX6_duel wsX6_worthOf := goodIn_r _ [14, 15, 16, 3, 17, 18, 19, 6, 20, 21, 22, 23, 24, 25, 26, 27, 1, 28, 29, 30, 31, 32, 33, 34, 35, 36, 37, 38, 39, 40, 41, 42, 43, 44, 45, 46, 47, 48, 49, 50, 51, 52, 53, 54, 55, 56, 57, 58, 59, 60, 61, 62, 63, 64, 65, 66, 67, 68, 69, 70, 71, 72, 73] (by decide +kernel) (by decide +kernel)
set_option maxRecDepth 20000 in
theorem gX6_duel_X6_worthOf : GoodIn wsX6_duel (wsV RX6 261 RX6 yX6_worthOf wsX6_worthOf) := goodIn_app (goodIn_of _ (by decide +kernel)) ggX6_duel_X6_worthOf
theorem dX6_duel_0 : decode cX6_duel 0 = .ok (.iload_n 1, 1) := by decide +kernel
theorem dX6_duel_1 : decode cX6_duel 1 = .ok (.iconst 0, 1) := by decide +kernel
theorem dX6_duel_2 : decode cX6_duel 2 = .ok (.bipush 6, 2) := by decide +kernel
theorem dX6_duel_4 : decode cX6_duel 4 = .ok (.invokestatic 109, 3) := by decide +kernel
theorem dX6_duel_7 : decode cX6_duel 7 = .ok (.ifCond .eq 10, 3) := by decide +kernel
theorem dX6_duel_10 : decode cX6_duel 10 = .ok (.iload_n 2, 1) := by decide +kernel
theorem dX6_duel_11 : decode cX6_duel 11 = .ok (.invokestatic 220, 3) := by decide +kernel
theorem dX6_duel_14 : decode cX6_duel 14 = .ok (.ifCond .ne 5, 3) := by decide +kernel
theorem dX6_duel_17 : decode cX6_duel 17 = .ok (.iconst (-1), 1) := by decide +kernel
theorem dX6_duel_18 : decode cX6_duel 18 = .ok (.ireturn, 1) := by decide +kernel
theorem dX6_duel_19 : decode cX6_duel 19 = .ok (.aload_n 0, 1) := by decide +kernel
theorem dX6_duel_20 : decode cX6_duel 20 = .ok (.getfield 167, 3) := by decide +kernel
theorem dX6_duel_23 : decode cX6_duel 23 = .ok (.ifCond .ne 6, 3) := by decide +kernel
theorem dX6_duel_26 : decode cX6_duel 26 = .ok (.bipush (-4), 2) := by decide +kernel
theorem dX6_duel_28 : decode cX6_duel 28 = .ok (.ireturn, 1) := by decide +kernel
theorem dX6_duel_29 : decode cX6_duel 29 = .ok (.iconst 0, 1) := by decide +kernel
theorem dX6_duel_30 : decode cX6_duel 30 = .ok (.istore_n 3, 1) := by decide +kernel
theorem dX6_duel_31 : decode cX6_duel 31 = .ok (.iload_n 3, 1) := by decide +kernel
theorem dX6_duel_32 : decode cX6_duel 32 = .ok (.iconst 1, 1) := by decide +kernel
theorem dX6_duel_33 : decode cX6_duel 33 = .ok (.iconst 2, 1) := by decide +kernel
theorem dX6_duel_34 : decode cX6_duel 34 = .ok (.iload_n 1, 1) := by decide +kernel
theorem dX6_duel_35 : decode cX6_duel 35 = .ok (.imul, 1) := by decide +kernel
theorem dX6_duel_36 : decode cX6_duel 36 = .ok (.ishl, 1) := by decide +kernel
theorem dX6_duel_37 : decode cX6_duel 37 = .ok (.if_icmp .ge 22, 3) := by decide +kernel
theorem dX6_duel_40 : decode cX6_duel 40 = .ok (.aload_n 0, 1) := by decide +kernel
theorem dX6_duel_41 : decode cX6_duel 41 = .ok (.getfield 92, 3) := by decide +kernel
theorem dX6_duel_44 : decode cX6_duel 44 = .ok (.iload_n 3, 1) := by decide +kernel
theorem dX6_duel_45 : decode cX6_duel 45 = .ok (.aload_n 0, 1) := by decide +kernel
theorem dX6_duel_46 : decode cX6_duel 46 = .ok (.iload_n 3, 1) := by decide +kernel
theorem dX6_duel_47 : decode cX6_duel 47 = .ok (.iload_n 1, 1) := by decide +kernel
theorem dX6_duel_48 : decode cX6_duel 48 = .ok (.iload_n 2, 1) := by decide +kernel
theorem dX6_duel_49 : decode cX6_duel 49 = .ok (.invokevirtual 261, 3) := by decide +kernel
theorem dX6_duel_52 : decode cX6_duel 52 = .ok (.iastore, 1) := by decide +kernel
theorem dX6_duel_53 : decode cX6_duel 53 = .ok (.iinc 3 1, 3) := by decide +kernel
theorem dX6_duel_56 : decode cX6_duel 56 = .ok (.goto (-25), 3) := by decide +kernel
theorem dX6_duel_59 : decode cX6_duel 59 = .ok (.iload_n 1, 1) := by decide +kernel
theorem dX6_duel_60 : decode cX6_duel 60 = .ok (.iconst 1, 1) := by decide +kernel
theorem dX6_duel_61 : decode cX6_duel 61 = .ok (.isub, 1) := by decide +kernel
theorem dX6_duel_62 : decode cX6_duel 62 = .ok (.istore_n 3, 1) := by decide +kernel
theorem dX6_duel_63 : decode cX6_duel 63 = .ok (.iload_n 3, 1) := by decide +kernel
theorem dX6_duel_64 : decode cX6_duel 64 = .ok (.ifCond .lt 131, 3) := by decide +kernel
theorem dX6_duel_67 : decode cX6_duel 67 = .ok (.iconst 0, 1) := by decide +kernel
theorem dX6_duel_68 : decode cX6_duel 68 = .ok (.istore 4, 2) := by decide +kernel
theorem dX6_duel_70 : decode cX6_duel 70 = .ok (.iload 4, 2) := by decide +kernel
theorem dX6_duel_72 : decode cX6_duel 72 = .ok (.iconst 1, 1) := by decide +kernel
theorem dX6_duel_73 : decode cX6_duel 73 = .ok (.iconst 2, 1) := by decide +kernel
theorem dX6_duel_74 : decode cX6_duel 74 = .ok (.iload_n 3, 1) := by decide +kernel
theorem dX6_duel_75 : decode cX6_duel 75 = .ok (.imul, 1) := by decide +kernel
theorem dX6_duel_76 : decode cX6_duel 76 = .ok (.ishl, 1) := by decide +kernel
theorem dX6_duel_77 : decode cX6_duel 77 = .ok (.if_icmp .ge 112, 3) := by decide +kernel
theorem dX6_duel_80 : decode cX6_duel 80 = .ok (.ldc_w 260, 3) := by decide +kernel
theorem dX6_duel_83 : decode cX6_duel 83 = .ok (.istore 5, 2) := by decide +kernel
theorem dX6_duel_85 : decode cX6_duel 85 = .ok (.iconst 0, 1) := by decide +kernel
theorem dX6_duel_86 : decode cX6_duel 86 = .ok (.istore 6, 2) := by decide +kernel
theorem dX6_duel_88 : decode cX6_duel 88 = .ok (.iload 6, 2) := by decide +kernel
theorem dX6_duel_90 : decode cX6_duel 90 = .ok (.iconst 4, 1) := by decide +kernel
theorem dX6_duel_91 : decode cX6_duel 91 = .ok (.if_icmp .ge 83, 3) := by decide +kernel
theorem dX6_duel_94 : decode cX6_duel 94 = .ok (.aload_n 0, 1) := by decide +kernel
theorem dX6_duel_95 : decode cX6_duel 95 = .ok (.getfield 92, 3) := by decide +kernel
theorem dX6_duel_98 : decode cX6_duel 98 = .ok (.iconst 4, 1) := by decide +kernel
theorem dX6_duel_99 : decode cX6_duel 99 = .ok (.iload 4, 2) := by decide +kernel
theorem dX6_duel_101 : decode cX6_duel 101 = .ok (.imul, 1) := by decide +kernel
theorem dX6_duel_102 : decode cX6_duel 102 = .ok (.iload 6, 2) := by decide +kernel
theorem dX6_duel_104 : decode cX6_duel 104 = .ok (.iadd, 1) := by decide +kernel
theorem dX6_duel_105 : decode cX6_duel 105 = .ok (.iaload, 1) := by decide +kernel
theorem dX6_duel_106 : decode cX6_duel 106 = .ok (.istore 7, 2) := by decide +kernel
theorem dX6_duel_108 : decode cX6_duel 108 = .ok (.iload 5, 2) := by decide +kernel
theorem dX6_duel_110 : decode cX6_duel 110 = .ok (.ldc_w 260, 3) := by decide +kernel
theorem dX6_duel_113 : decode cX6_duel 113 = .ok (.if_icmp .eq 26, 3) := by decide +kernel
theorem dX6_duel_116 : decode cX6_duel 116 = .ok (.iload_n 3, 1) := by decide +kernel
theorem dX6_duel_117 : decode cX6_duel 117 = .ok (.iconst 2, 1) := by decide +kernel
theorem dX6_duel_118 : decode cX6_duel 118 = .ok (.irem, 1) := by decide +kernel
theorem dX6_duel_119 : decode cX6_duel 119 = .ok (.ifCond .ne 13, 3) := by decide +kernel
theorem dX6_duel_122 : decode cX6_duel 122 = .ok (.iload 7, 2) := by decide +kernel
theorem dX6_duel_124 : decode cX6_duel 124 = .ok (.iload 5, 2) := by decide +kernel
theorem dX6_duel_126 : decode cX6_duel 126 = .ok (.if_icmp .le 17, 3) := by decide +kernel
theorem dX6_duel_129 : decode cX6_duel 129 = .ok (.goto 10, 3) := by decide +kernel
theorem dX6_duel_132 : decode cX6_duel 132 = .ok (.iload 7, 2) := by decide +kernel
theorem dX6_duel_134 : decode cX6_duel 134 = .ok (.iload 5, 2) := by decide +kernel
theorem dX6_duel_136 : decode cX6_duel 136 = .ok (.if_icmp .ge 7, 3) := by decide +kernel
theorem dX6_duel_139 : decode cX6_duel 139 = .ok (.iconst 1, 1) := by decide +kernel
theorem dX6_duel_140 : decode cX6_duel 140 = .ok (.goto 4, 3) := by decide +kernel
theorem dX6_duel_143 : decode cX6_duel 143 = .ok (.iconst 0, 1) := by decide +kernel
theorem dX6_duel_144 : decode cX6_duel 144 = .ok (.istore 8, 2) := by decide +kernel
theorem dX6_duel_146 : decode cX6_duel 146 = .ok (.iload 7, 2) := by decide +kernel
theorem dX6_duel_148 : decode cX6_duel 148 = .ok (.ldc_w 260, 3) := by decide +kernel
theorem dX6_duel_151 : decode cX6_duel 151 = .ok (.if_icmp .eq 13, 3) := by decide +kernel
theorem dX6_duel_154 : decode cX6_duel 154 = .ok (.iload 8, 2) := by decide +kernel
theorem dX6_duel_156 : decode cX6_duel 156 = .ok (.ifCond .eq 8, 3) := by decide +kernel
theorem dX6_duel_159 : decode cX6_duel 159 = .ok (.iload 7, 2) := by decide +kernel
theorem dX6_duel_161 : decode cX6_duel 161 = .ok (.goto 5, 3) := by decide +kernel
theorem dX6_duel_164 : decode cX6_duel 164 = .ok (.iload 5, 2) := by decide +kernel
theorem dX6_duel_166 : decode cX6_duel 166 = .ok (.istore 5, 2) := by decide +kernel
theorem dX6_duel_168 : decode cX6_duel 168 = .ok (.iinc 6 1, 3) := by decide +kernel
theorem dX6_duel_171 : decode cX6_duel 171 = .ok (.goto (-83), 3) := by decide +kernel
theorem dX6_duel_174 : decode cX6_duel 174 = .ok (.aload_n 0, 1) := by decide +kernel
theorem dX6_duel_175 : decode cX6_duel 175 = .ok (.getfield 92, 3) := by decide +kernel
theorem dX6_duel_178 : decode cX6_duel 178 = .ok (.iload 4, 2) := by decide +kernel
theorem dX6_duel_180 : decode cX6_duel 180 = .ok (.iload 5, 2) := by decide +kernel
theorem dX6_duel_182 : decode cX6_duel 182 = .ok (.iastore, 1) := by decide +kernel
theorem dX6_duel_183 : decode cX6_duel 183 = .ok (.iinc 4 1, 3) := by decide +kernel
theorem dX6_duel_186 : decode cX6_duel 186 = .ok (.goto (-116), 3) := by decide +kernel
theorem dX6_duel_189 : decode cX6_duel 189 = .ok (.iinc 3 (-1), 3) := by decide +kernel
theorem dX6_duel_192 : decode cX6_duel 192 = .ok (.goto (-129), 3) := by decide +kernel
theorem dX6_duel_195 : decode cX6_duel 195 = .ok (.aload_n 0, 1) := by decide +kernel
theorem dX6_duel_196 : decode cX6_duel 196 = .ok (.getfield 92, 3) := by decide +kernel
theorem dX6_duel_199 : decode cX6_duel 199 = .ok (.iconst 0, 1) := by decide +kernel
theorem dX6_duel_200 : decode cX6_duel 200 = .ok (.iaload, 1) := by decide +kernel
theorem dX6_duel_201 : decode cX6_duel 201 = .ok (.bipush 100, 2) := by decide +kernel
theorem dX6_duel_203 : decode cX6_duel 203 = .ok (.iadd, 1) := by decide +kernel
theorem dX6_duel_204 : decode cX6_duel 204 = .ok (.ireturn, 1) := by decide +kernel
set_option maxRecDepth 20000 in
theorem ggX6_odds_X6_in : GoodIn wsX6_odds wsX6_in := goodIn_r _ [7] (by decide +kernel) (by decide +kernel)
set_option maxRecDepth 20000 in
theorem gX6_odds_X6_in : GoodIn wsX6_odds (va_wsS RX6 109 yX6_in wsX6_in) := goodIn_app (goodIn_of _ (by decide +kernel)) ggX6_odds_X6_in
set_option maxRecDepth 20000 in
theorem ggX6_odds_X6_manyWet : GoodIn wsX6_odds wsX6_manyWet := goodIn_r _ [11, 1, 12, 13, 14, 15, 6, 16, 23, 24, 25, 26, 27, 28, 29, 30, 31, 32, 33, 34, 35, 36, 37, 38, 39, 40, 41, 42, 43, 44, 45, 46, 47, 48, 49, 50, 51, 52, 53, 54, 55, 56, 57, 58, 59, 60, 61, 62, 63, 64] (by decide +kernel) (by decide +kernel)
set_option maxRecDepth 20000 in
theorem gX6_odds_X6_manyWet : GoodIn wsX6_odds (wsV RX6 226 RX6 yX6_manyWet wsX6_manyWet) := goodIn_app (goodIn_of _ (by decide +kernel)) ggX6_odds_X6_manyWet
set_option maxRecDepth 20000 in
theorem ggX6_odds_X6_tellPart : GoodIn wsX6_odds wsX6_tellPart := goodIn_r _ [20, 21, 22, 23, 24, 25, 26, 27, 28, 29, 30, 31, 32, 33, 34, 35, 36, 37, 38, 39, 40, 41, 42, 43, 44, 45, 46, 47, 48, 49, 50, 51, 52, 53, 54, 55, 56, 57, 58, 59, 60, 61, 62, 63, 64] (by decide +kernel) (by decide +kernel)
set_option maxRecDepth 20000 in
theorem gX6_odds_X6_tellPart : GoodIn wsX6_odds (wsV RX6 264 RX6 yX6_tellPart wsX6_tellPart) := goodIn_app (goodIn_of _ (by decide +kernel)) ggX6_odds_X6_tellPart
theorem dX6_odds_0 : decode cX6_odds 0 = .ok (.iload_n 1, 1) := by decide +kernel
theorem dX6_odds_1 : decode cX6_odds 1 = .ok (.iconst 0, 1) := by decide +kernel
theorem dX6_odds_2 : decode cX6_odds 2 = .ok (.bipush 6, 2) := by decide +kernel
theorem dX6_odds_4 : decode cX6_odds 4 = .ok (.invokestatic 109, 3) := by decide +kernel
theorem dX6_odds_7 : decode cX6_odds 7 = .ok (.ifCond .ne 5, 3) := by decide +kernel
theorem dX6_odds_10 : decode cX6_odds 10 = .ok (.iconst (-1), 1) := by decide +kernel
theorem dX6_odds_11 : decode cX6_odds 11 = .ok (.ireturn, 1) := by decide +kernel
theorem dX6_odds_12 : decode cX6_odds 12 = .ok (.aload_n 0, 1) := by decide +kernel
theorem dX6_odds_13 : decode cX6_odds 13 = .ok (.getfield 167, 3) := by decide +kernel
theorem dX6_odds_16 : decode cX6_odds 16 = .ok (.ifCond .eq 10, 3) := by decide +kernel
theorem dX6_odds_19 : decode cX6_odds 19 = .ok (.aload_n 0, 1) := by decide +kernel
theorem dX6_odds_20 : decode cX6_odds 20 = .ok (.getfield 185, 3) := by decide +kernel
theorem dX6_odds_23 : decode cX6_odds 23 = .ok (.ifCond .ne 6, 3) := by decide +kernel
theorem dX6_odds_26 : decode cX6_odds 26 = .ok (.bipush (-4), 2) := by decide +kernel
theorem dX6_odds_28 : decode cX6_odds 28 = .ok (.ireturn, 1) := by decide +kernel
theorem dX6_odds_29 : decode cX6_odds 29 = .ok (.iconst 0, 1) := by decide +kernel
theorem dX6_odds_30 : decode cX6_odds 30 = .ok (.istore_n 2, 1) := by decide +kernel
theorem dX6_odds_31 : decode cX6_odds 31 = .ok (.iconst 0, 1) := by decide +kernel
theorem dX6_odds_32 : decode cX6_odds 32 = .ok (.istore_n 3, 1) := by decide +kernel
theorem dX6_odds_33 : decode cX6_odds 33 = .ok (.iload_n 3, 1) := by decide +kernel
theorem dX6_odds_34 : decode cX6_odds 34 = .ok (.aload_n 0, 1) := by decide +kernel
theorem dX6_odds_35 : decode cX6_odds 35 = .ok (.getfield 185, 3) := by decide +kernel
theorem dX6_odds_38 : decode cX6_odds 38 = .ok (.if_icmp .ge 31, 3) := by decide +kernel
theorem dX6_odds_41 : decode cX6_odds 41 = .ok (.iload_n 2, 1) := by decide +kernel
theorem dX6_odds_42 : decode cX6_odds 42 = .ok (.aload_n 0, 1) := by decide +kernel
theorem dX6_odds_43 : decode cX6_odds 43 = .ok (.aload_n 0, 1) := by decide +kernel
theorem dX6_odds_44 : decode cX6_odds 44 = .ok (.getfield 68, 3) := by decide +kernel
theorem dX6_odds_47 : decode cX6_odds 47 = .ok (.iload_n 3, 1) := by decide +kernel
theorem dX6_odds_48 : decode cX6_odds 48 = .ok (.iaload, 1) := by decide +kernel
theorem dX6_odds_49 : decode cX6_odds 49 = .ok (.invokevirtual 226, 3) := by decide +kernel
theorem dX6_odds_52 : decode cX6_odds 52 = .ok (.iload_n 1, 1) := by decide +kernel
theorem dX6_odds_53 : decode cX6_odds 53 = .ok (.if_icmp .lt 7, 3) := by decide +kernel
theorem dX6_odds_56 : decode cX6_odds 56 = .ok (.iconst 1, 1) := by decide +kernel
theorem dX6_odds_57 : decode cX6_odds 57 = .ok (.goto 4, 3) := by decide +kernel
theorem dX6_odds_60 : decode cX6_odds 60 = .ok (.iconst 0, 1) := by decide +kernel
theorem dX6_odds_61 : decode cX6_odds 61 = .ok (.iadd, 1) := by decide +kernel
theorem dX6_odds_62 : decode cX6_odds 62 = .ok (.istore_n 2, 1) := by decide +kernel
theorem dX6_odds_63 : decode cX6_odds 63 = .ok (.iinc 3 1, 3) := by decide +kernel
theorem dX6_odds_66 : decode cX6_odds 66 = .ok (.goto (-33), 3) := by decide +kernel
theorem dX6_odds_69 : decode cX6_odds 69 = .ok (.aload_n 0, 1) := by decide +kernel
theorem dX6_odds_70 : decode cX6_odds 70 = .ok (.iload_n 2, 1) := by decide +kernel
theorem dX6_odds_71 : decode cX6_odds 71 = .ok (.i2l, 1) := by decide +kernel
theorem dX6_odds_72 : decode cX6_odds 72 = .ok (.aload_n 0, 1) := by decide +kernel
theorem dX6_odds_73 : decode cX6_odds 73 = .ok (.getfield 185, 3) := by decide +kernel
theorem dX6_odds_76 : decode cX6_odds 76 = .ok (.i2l, 1) := by decide +kernel
theorem dX6_odds_77 : decode cX6_odds 77 = .ok (.invokevirtual 264, 3) := by decide +kernel
theorem dX6_odds_80 : decode cX6_odds 80 = .ok (.iconst 1, 1) := by decide +kernel
theorem dX6_odds_81 : decode cX6_odds 81 = .ok (.ireturn, 1) := by decide +kernel
set_option maxRecDepth 20000 in
theorem ggX6_mid_X6_noMore : GoodIn wsX6_mid wsX6_noMore := goodIn_r _ [8, 9, 25, 26, 27, 28, 29, 30, 31, 32, 33, 34, 35, 36, 37, 38, 39, 40, 41, 42, 43, 44, 45, 46, 47, 48, 49, 50, 51, 52, 53, 54, 55, 56, 57, 58, 59, 60, 61, 62, 63, 64, 65, 66] (by decide +kernel) (by decide +kernel)
set_option maxRecDepth 20000 in
theorem gX6_mid_X6_noMore : GoodIn wsX6_mid (wsV RX6 257 RX6 yX6_noMore wsX6_noMore) := goodIn_app (goodIn_of _ (by decide +kernel)) ggX6_mid_X6_noMore
set_option maxRecDepth 20000 in
theorem ggX6_mid_X6_wetAll : GoodIn wsX6_mid wsX6_wetAll := goodIn_r _ [13, 1, 14, 15, 9, 16, 17, 7, 18, 25, 26, 27, 28, 29, 30, 31, 32, 33, 34, 35, 36, 37, 38, 39, 40, 41, 42, 43, 44, 45, 46, 47, 48, 49, 50, 51, 52, 53, 54, 55, 56, 57, 58, 59, 60, 61, 62, 63, 64, 65, 66] (by decide +kernel) (by decide +kernel)
set_option maxRecDepth 20000 in
theorem gX6_mid_X6_wetAll : GoodIn wsX6_mid (wsV RX6 254 RX6 yX6_wetAll wsX6_wetAll) := goodIn_app (goodIn_of _ (by decide +kernel)) ggX6_mid_X6_wetAll
set_option maxRecDepth 20000 in
theorem ggX6_mid_X6_tellPart : GoodIn wsX6_mid wsX6_tellPart := goodIn_r _ [22, 23, 24, 25, 26, 27, 28, 29, 30, 31, 32, 33, 34, 35, 36, 37, 38, 39, 40, 41, 42, 43, 44, 45, 46, 47, 48, 49, 50, 51, 52, 53, 54, 55, 56, 57, 58, 59, 60, 61, 62, 63, 64, 65, 66] (by decide +kernel) (by decide +kernel)
set_option maxRecDepth 20000 in
theorem gX6_mid_X6_tellPart : GoodIn wsX6_mid (wsV RX6 264 RX6 yX6_tellPart wsX6_tellPart) := goodIn_app (goodIn_of _ (by decide +kernel)) ggX6_mid_X6_tellPart
theorem dX6_mid_0 : decode cX6_mid 0 = .ok (.aload_n 0, 1) := by decide +kernel
theorem dX6_mid_1 : decode cX6_mid 1 = .ok (.getfield 167, 3) := by decide +kernel
theorem dX6_mid_4 : decode cX6_mid 4 = .ok (.ifCond .eq 10, 3) := by decide +kernel
theorem dX6_mid_7 : decode cX6_mid 7 = .ok (.aload_n 0, 1) := by decide +kernel
theorem dX6_mid_8 : decode cX6_mid 8 = .ok (.getfield 185, 3) := by decide +kernel
theorem dX6_mid_11 : decode cX6_mid 11 = .ok (.ifCond .ne 6, 3) := by decide +kernel
theorem dX6_mid_14 : decode cX6_mid 14 = .ok (.bipush (-4), 2) := by decide +kernel
theorem dX6_mid_16 : decode cX6_mid 16 = .ok (.ireturn, 1) := by decide +kernel
theorem dX6_mid_17 : decode cX6_mid 17 = .ok (.aload_n 0, 1) := by decide +kernel
theorem dX6_mid_18 : decode cX6_mid 18 = .ok (.invokevirtual 257, 3) := by decide +kernel
theorem dX6_mid_21 : decode cX6_mid 21 = .ok (.iconst 0, 1) := by decide +kernel
theorem dX6_mid_22 : decode cX6_mid 22 = .ok (.istore_n 1, 1) := by decide +kernel
theorem dX6_mid_23 : decode cX6_mid 23 = .ok (.iconst 0, 1) := by decide +kernel
theorem dX6_mid_24 : decode cX6_mid 24 = .ok (.istore_n 2, 1) := by decide +kernel
theorem dX6_mid_25 : decode cX6_mid 25 = .ok (.iload_n 2, 1) := by decide +kernel
theorem dX6_mid_26 : decode cX6_mid 26 = .ok (.aload_n 0, 1) := by decide +kernel
theorem dX6_mid_27 : decode cX6_mid 27 = .ok (.getfield 185, 3) := by decide +kernel
theorem dX6_mid_30 : decode cX6_mid 30 = .ok (.if_icmp .ge 24, 3) := by decide +kernel
theorem dX6_mid_33 : decode cX6_mid 33 = .ok (.iload_n 1, 1) := by decide +kernel
theorem dX6_mid_34 : decode cX6_mid 34 = .ok (.aload_n 0, 1) := by decide +kernel
theorem dX6_mid_35 : decode cX6_mid 35 = .ok (.aload_n 0, 1) := by decide +kernel
theorem dX6_mid_36 : decode cX6_mid 36 = .ok (.getfield 68, 3) := by decide +kernel
theorem dX6_mid_39 : decode cX6_mid 39 = .ok (.iload_n 2, 1) := by decide +kernel
theorem dX6_mid_40 : decode cX6_mid 40 = .ok (.iaload, 1) := by decide +kernel
theorem dX6_mid_41 : decode cX6_mid 41 = .ok (.bipush 63, 2) := by decide +kernel
theorem dX6_mid_43 : decode cX6_mid 43 = .ok (.invokevirtual 254, 3) := by decide +kernel
theorem dX6_mid_46 : decode cX6_mid 46 = .ok (.iadd, 1) := by decide +kernel
theorem dX6_mid_47 : decode cX6_mid 47 = .ok (.istore_n 1, 1) := by decide +kernel
theorem dX6_mid_48 : decode cX6_mid 48 = .ok (.iinc 2 1, 3) := by decide +kernel
theorem dX6_mid_51 : decode cX6_mid 51 = .ok (.goto (-26), 3) := by decide +kernel
theorem dX6_mid_54 : decode cX6_mid 54 = .ok (.aload_n 0, 1) := by decide +kernel
theorem dX6_mid_55 : decode cX6_mid 55 = .ok (.iload_n 1, 1) := by decide +kernel
theorem dX6_mid_56 : decode cX6_mid 56 = .ok (.i2l, 1) := by decide +kernel
theorem dX6_mid_57 : decode cX6_mid 57 = .ok (.aload_n 0, 1) := by decide +kernel
theorem dX6_mid_58 : decode cX6_mid 58 = .ok (.getfield 185, 3) := by decide +kernel
theorem dX6_mid_61 : decode cX6_mid 61 = .ok (.i2l, 1) := by decide +kernel
theorem dX6_mid_62 : decode cX6_mid 62 = .ok (.invokevirtual 264, 3) := by decide +kernel
theorem dX6_mid_65 : decode cX6_mid 65 = .ok (.iconst 1, 1) := by decide +kernel
theorem dX6_mid_66 : decode cX6_mid 66 = .ok (.ireturn, 1) := by decide +kernel
set_option maxRecDepth 20000 in
theorem ggX6_lots_X6_in : GoodIn wsX6_lots wsX6_in := goodIn_r _ [15] (by decide +kernel) (by decide +kernel)
set_option maxRecDepth 20000 in
theorem gX6_lots_X6_in : GoodIn wsX6_lots (va_wsS RX6 109 yX6_in wsX6_in) := goodIn_app (goodIn_of _ (by decide +kernel)) ggX6_lots_X6_in
set_option maxRecDepth 20000 in
theorem ggX6_lots_X6_does : GoodIn wsX6_lots wsX6_does := goodIn_r _ [19, 20, 3, 21, 22, 23, 14, 24, 2, 7, 25, 26, 27, 28, 29, 30, 31, 32, 33, 34, 35, 36, 37, 38, 39, 40, 41, 42, 43, 44, 45, 46, 47, 48, 49, 50, 51, 52, 53, 54, 55, 56, 57, 58, 59, 60, 61, 62, 63, 64, 65, 66, 67, 68, 69, 70, 71, 72, 73, 74, 75, 76, 77, 78, 79, 80, 81, 82, 83, 84, 85, 86, 87, 88, 89] (by decide +kernel) (by decide +kernel)
set_option maxRecDepth 20000 in
theorem gX6_lots_X6_does : GoodIn wsX6_lots (wsV RX6 223 RX6 yX6_does wsX6_does) := goodIn_app (goodIn_of _ (by decide +kernel)) ggX6_lots_X6_does
theorem dX6_lots_0 : decode cX6_lots 0 = .ok (.iload_n 1, 1) := by decide +kernel
theorem dX6_lots_1 : decode cX6_lots 1 = .ok (.iconst 1, 1) := by decide +kernel
theorem dX6_lots_2 : decode cX6_lots 2 = .ok (.bipush 20, 2) := by decide +kernel
theorem dX6_lots_4 : decode cX6_lots 4 = .ok (.invokestatic 109, 3) := by decide +kernel
theorem dX6_lots_7 : decode cX6_lots 7 = .ok (.ifCond .eq 14, 3) := by decide +kernel
theorem dX6_lots_10 : decode cX6_lots 10 = .ok (.iload_n 2, 1) := by decide +kernel
theorem dX6_lots_11 : decode cX6_lots 11 = .ok (.iconst 1, 1) := by decide +kernel
theorem dX6_lots_12 : decode cX6_lots 12 = .ok (.ldc_w 268, 3) := by decide +kernel
theorem dX6_lots_15 : decode cX6_lots 15 = .ok (.invokestatic 109, 3) := by decide +kernel
theorem dX6_lots_18 : decode cX6_lots 18 = .ok (.ifCond .ne 5, 3) := by decide +kernel
theorem dX6_lots_21 : decode cX6_lots 21 = .ok (.iconst (-1), 1) := by decide +kernel
theorem dX6_lots_22 : decode cX6_lots 22 = .ok (.ireturn, 1) := by decide +kernel
theorem dX6_lots_23 : decode cX6_lots 23 = .ok (.aload_n 0, 1) := by decide +kernel
theorem dX6_lots_24 : decode cX6_lots 24 = .ok (.getfield 167, 3) := by decide +kernel
theorem dX6_lots_27 : decode cX6_lots 27 = .ok (.ifCond .ne 6, 3) := by decide +kernel
theorem dX6_lots_30 : decode cX6_lots 30 = .ok (.bipush (-4), 2) := by decide +kernel
theorem dX6_lots_32 : decode cX6_lots 32 = .ok (.ireturn, 1) := by decide +kernel
theorem dX6_lots_33 : decode cX6_lots 33 = .ok (.aload_n 0, 1) := by decide +kernel
theorem dX6_lots_34 : decode cX6_lots 34 = .ok (.getfield 173, 3) := by decide +kernel
theorem dX6_lots_37 : decode cX6_lots 37 = .ok (.iload_n 1, 1) := by decide +kernel
theorem dX6_lots_38 : decode cX6_lots 38 = .ok (.iadd, 1) := by decide +kernel
theorem dX6_lots_39 : decode cX6_lots 39 = .ok (.bipush 40, 2) := by decide +kernel
theorem dX6_lots_41 : decode cX6_lots 41 = .ok (.if_icmp .le 6, 3) := by decide +kernel
theorem dX6_lots_44 : decode cX6_lots 44 = .ok (.bipush (-2), 2) := by decide +kernel
theorem dX6_lots_46 : decode cX6_lots 46 = .ok (.ireturn, 1) := by decide +kernel
theorem dX6_lots_47 : decode cX6_lots 47 = .ok (.iload_n 2, 1) := by decide +kernel
theorem dX6_lots_48 : decode cX6_lots 48 = .ok (.i2l, 1) := by decide +kernel
theorem dX6_lots_49 : decode cX6_lots 49 = .ok (.lstore_n 3, 1) := by decide +kernel
theorem dX6_lots_50 : decode cX6_lots 50 = .ok (.iconst 0, 1) := by decide +kernel
theorem dX6_lots_51 : decode cX6_lots 51 = .ok (.istore 5, 2) := by decide +kernel
theorem dX6_lots_53 : decode cX6_lots 53 = .ok (.iload 5, 2) := by decide +kernel
theorem dX6_lots_55 : decode cX6_lots 55 = .ok (.iload_n 1, 1) := by decide +kernel
theorem dX6_lots_56 : decode cX6_lots 56 = .ok (.if_icmp .ge 84, 3) := by decide +kernel
theorem dX6_lots_59 : decode cX6_lots 59 = .ok (.ldc2_w 269, 3) := by decide +kernel
theorem dX6_lots_62 : decode cX6_lots 62 = .ok (.lload_n 3, 1) := by decide +kernel
theorem dX6_lots_63 : decode cX6_lots 63 = .ok (.lmul, 1) := by decide +kernel
theorem dX6_lots_64 : decode cX6_lots 64 = .ok (.ldc2_w 271, 3) := by decide +kernel
theorem dX6_lots_67 : decode cX6_lots 67 = .ok (.lrem, 1) := by decide +kernel
theorem dX6_lots_68 : decode cX6_lots 68 = .ok (.lstore_n 3, 1) := by decide +kernel
theorem dX6_lots_69 : decode cX6_lots 69 = .ok (.lload_n 3, 1) := by decide +kernel
theorem dX6_lots_70 : decode cX6_lots 70 = .ok (.ldc2_w 273, 3) := by decide +kernel
theorem dX6_lots_73 : decode cX6_lots 73 = .ok (.lrem, 1) := by decide +kernel
theorem dX6_lots_74 : decode cX6_lots 74 = .ok (.lconst 0, 1) := by decide +kernel
theorem dX6_lots_75 : decode cX6_lots 75 = .ok (.lcmp, 1) := by decide +kernel
theorem dX6_lots_76 : decode cX6_lots 76 = .ok (.ifCond .ne 31, 3) := by decide +kernel
theorem dX6_lots_79 : decode cX6_lots 79 = .ok (.aload_n 0, 1) := by decide +kernel
theorem dX6_lots_80 : decode cX6_lots 80 = .ok (.getfield 185, 3) := by decide +kernel
theorem dX6_lots_83 : decode cX6_lots 83 = .ok (.bipush 8, 2) := by decide +kernel
theorem dX6_lots_85 : decode cX6_lots 85 = .ok (.if_icmp .ge 22, 3) := by decide +kernel
theorem dX6_lots_88 : decode cX6_lots 88 = .ok (.aload_n 0, 1) := by decide +kernel
theorem dX6_lots_89 : decode cX6_lots 89 = .ok (.iconst 0, 1) := by decide +kernel
theorem dX6_lots_90 : decode cX6_lots 90 = .ok (.lload_n 3, 1) := by decide +kernel
theorem dX6_lots_91 : decode cX6_lots 91 = .ok (.ldc2_w 275, 3) := by decide +kernel
theorem dX6_lots_94 : decode cX6_lots 94 = .ok (.ldiv, 1) := by decide +kernel
theorem dX6_lots_95 : decode cX6_lots 95 = .ok (.ldc2_w 277, 3) := by decide +kernel
theorem dX6_lots_98 : decode cX6_lots 98 = .ok (.lrem, 1) := by decide +kernel
theorem dX6_lots_99 : decode cX6_lots 99 = .ok (.l2i, 1) := by decide +kernel
theorem dX6_lots_100 : decode cX6_lots 100 = .ok (.iconst 0, 1) := by decide +kernel
theorem dX6_lots_101 : decode cX6_lots 101 = .ok (.invokevirtual 223, 3) := by decide +kernel
theorem dX6_lots_104 : decode cX6_lots 104 = .ok (.goto 30, 3) := by decide +kernel
theorem dX6_lots_107 : decode cX6_lots 107 = .ok (.aload_n 0, 1) := by decide +kernel
theorem dX6_lots_108 : decode cX6_lots 108 = .ok (.iconst 1, 1) := by decide +kernel
theorem dX6_lots_109 : decode cX6_lots 109 = .ok (.lload_n 3, 1) := by decide +kernel
theorem dX6_lots_110 : decode cX6_lots 110 = .ok (.ldc2_w 275, 3) := by decide +kernel
theorem dX6_lots_113 : decode cX6_lots 113 = .ok (.ldiv, 1) := by decide +kernel
theorem dX6_lots_114 : decode cX6_lots 114 = .ok (.aload_n 0, 1) := by decide +kernel
theorem dX6_lots_115 : decode cX6_lots 115 = .ok (.getfield 167, 3) := by decide +kernel
theorem dX6_lots_118 : decode cX6_lots 118 = .ok (.i2l, 1) := by decide +kernel
theorem dX6_lots_119 : decode cX6_lots 119 = .ok (.lrem, 1) := by decide +kernel
theorem dX6_lots_120 : decode cX6_lots 120 = .ok (.l2i, 1) := by decide +kernel
theorem dX6_lots_121 : decode cX6_lots 121 = .ok (.lload_n 3, 1) := by decide +kernel
theorem dX6_lots_122 : decode cX6_lots 122 = .ok (.ldc2_w 279, 3) := by decide +kernel
theorem dX6_lots_125 : decode cX6_lots 125 = .ok (.ldiv, 1) := by decide +kernel
theorem dX6_lots_126 : decode cX6_lots 126 = .ok (.ldc2_w 281, 3) := by decide +kernel
theorem dX6_lots_129 : decode cX6_lots 129 = .ok (.lrem, 1) := by decide +kernel
theorem dX6_lots_130 : decode cX6_lots 130 = .ok (.l2i, 1) := by decide +kernel
theorem dX6_lots_131 : decode cX6_lots 131 = .ok (.invokevirtual 223, 3) := by decide +kernel
theorem dX6_lots_134 : decode cX6_lots 134 = .ok (.iinc 5 1, 3) := by decide +kernel
theorem dX6_lots_137 : decode cX6_lots 137 = .ok (.goto (-84), 3) := by decide +kernel
theorem dX6_lots_140 : decode cX6_lots 140 = .ok (.aload_n 0, 1) := by decide +kernel
theorem dX6_lots_141 : decode cX6_lots 141 = .ok (.getfield 185, 3) := by decide +kernel
theorem dX6_lots_144 : decode cX6_lots 144 = .ok (.ireturn, 1) := by decide +kernel
theorem dX6_asked_0 : decode cX6_asked 0 = .ok (.aload_n 0, 1) := by decide +kernel
theorem dX6_asked_1 : decode cX6_asked 1 = .ok (.getfield 103, 3) := by decide +kernel
theorem dX6_asked_4 : decode cX6_asked 4 = .ok (.ireturn, 1) := by decide +kernel
theorem dX6_upper_0 : decode cX6_upper 0 = .ok (.aload_n 0, 1) := by decide +kernel
theorem dX6_upper_1 : decode cX6_upper 1 = .ok (.getfield 106, 3) := by decide +kernel
theorem dX6_upper_4 : decode cX6_upper 4 = .ok (.lreturn, 1) := by decide +kernel
theorem dX6_lower_0 : decode cX6_lower 0 = .ok (.aload_n 0, 1) := by decide +kernel
theorem dX6_lower_1 : decode cX6_lower 1 = .ok (.getfield 95, 3) := by decide +kernel
theorem dX6_lower_4 : decode cX6_lower 4 = .ok (.lreturn, 1) := by decide +kernel
set_option maxRecDepth 20000 in
theorem ggX6_count_X6_isOf : GoodIn wsX6_count wsX6_isOf := goodIn_r _ [15] (by decide +kernel) (by decide +kernel)
set_option maxRecDepth 20000 in
theorem gX6_count_X6_isOf : GoodIn wsX6_count (va_wsS RX6 209 yX6_isOf wsX6_isOf) := goodIn_app (goodIn_of _ (by decide +kernel)) ggX6_count_X6_isOf
theorem dX6_count_0 : decode cX6_count 0 = .ok (.iconst 0, 1) := by decide +kernel
theorem dX6_count_1 : decode cX6_count 1 = .ok (.istore_n 2, 1) := by decide +kernel
theorem dX6_count_2 : decode cX6_count 2 = .ok (.iload_n 1, 1) := by decide +kernel
theorem dX6_count_3 : decode cX6_count 3 = .ok (.tableswitch 288 0 10 #[57, 62, 67, 72, 77, 102, 129, 152, 191, 224, 256], 57) := by decide +kernel
theorem dX6_count_60 : decode cX6_count 60 = .ok (.aload_n 0, 1) := by decide +kernel
theorem dX6_count_61 : decode cX6_count 61 = .ok (.getfield 167, 3) := by decide +kernel
theorem dX6_count_64 : decode cX6_count 64 = .ok (.ireturn, 1) := by decide +kernel
theorem dX6_count_65 : decode cX6_count 65 = .ok (.aload_n 0, 1) := by decide +kernel
theorem dX6_count_66 : decode cX6_count 66 = .ok (.getfield 185, 3) := by decide +kernel
theorem dX6_count_69 : decode cX6_count 69 = .ok (.ireturn, 1) := by decide +kernel
theorem dX6_count_70 : decode cX6_count 70 = .ok (.aload_n 0, 1) := by decide +kernel
theorem dX6_count_71 : decode cX6_count 71 = .ok (.getfield 173, 3) := by decide +kernel
theorem dX6_count_74 : decode cX6_count 74 = .ok (.ireturn, 1) := by decide +kernel
theorem dX6_count_75 : decode cX6_count 75 = .ok (.aload_n 0, 1) := by decide +kernel
theorem dX6_count_76 : decode cX6_count 76 = .ok (.getfield 196, 3) := by decide +kernel
theorem dX6_count_79 : decode cX6_count 79 = .ok (.ireturn, 1) := by decide +kernel
theorem dX6_count_80 : decode cX6_count 80 = .ok (.iconst 0, 1) := by decide +kernel
theorem dX6_count_81 : decode cX6_count 81 = .ok (.istore_n 3, 1) := by decide +kernel
theorem dX6_count_82 : decode cX6_count 82 = .ok (.iload_n 3, 1) := by decide +kernel
theorem dX6_count_83 : decode cX6_count 83 = .ok (.bipush 6, 2) := by decide +kernel
theorem dX6_count_85 : decode cX6_count 85 = .ok (.if_icmp .ge 18, 3) := by decide +kernel
theorem dX6_count_88 : decode cX6_count 88 = .ok (.iload_n 2, 1) := by decide +kernel
theorem dX6_count_89 : decode cX6_count 89 = .ok (.aload_n 0, 1) := by decide +kernel
theorem dX6_count_90 : decode cX6_count 90 = .ok (.getfield 65, 3) := by decide +kernel
theorem dX6_count_93 : decode cX6_count 93 = .ok (.iload_n 3, 1) := by decide +kernel
theorem dX6_count_94 : decode cX6_count 94 = .ok (.iaload, 1) := by decide +kernel
theorem dX6_count_95 : decode cX6_count 95 = .ok (.iadd, 1) := by decide +kernel
theorem dX6_count_96 : decode cX6_count 96 = .ok (.istore_n 2, 1) := by decide +kernel
theorem dX6_count_97 : decode cX6_count 97 = .ok (.iinc 3 1, 3) := by decide +kernel
theorem dX6_count_100 : decode cX6_count 100 = .ok (.goto (-18), 3) := by decide +kernel
theorem dX6_count_103 : decode cX6_count 103 = .ok (.iload_n 2, 1) := by decide +kernel
theorem dX6_count_104 : decode cX6_count 104 = .ok (.ireturn, 1) := by decide +kernel
theorem dX6_count_105 : decode cX6_count 105 = .ok (.iconst 0, 1) := by decide +kernel
theorem dX6_count_106 : decode cX6_count 106 = .ok (.istore_n 3, 1) := by decide +kernel
theorem dX6_count_107 : decode cX6_count 107 = .ok (.iload_n 3, 1) := by decide +kernel
theorem dX6_count_108 : decode cX6_count 108 = .ok (.aload_n 0, 1) := by decide +kernel
theorem dX6_count_109 : decode cX6_count 109 = .ok (.getfield 167, 3) := by decide +kernel
theorem dX6_count_112 : decode cX6_count 112 = .ok (.if_icmp .ge 18, 3) := by decide +kernel
theorem dX6_count_115 : decode cX6_count 115 = .ok (.iload_n 2, 1) := by decide +kernel
theorem dX6_count_116 : decode cX6_count 116 = .ok (.aload_n 0, 1) := by decide +kernel
theorem dX6_count_117 : decode cX6_count 117 = .ok (.getfield 62, 3) := by decide +kernel
theorem dX6_count_120 : decode cX6_count 120 = .ok (.iload_n 3, 1) := by decide +kernel
theorem dX6_count_121 : decode cX6_count 121 = .ok (.iaload, 1) := by decide +kernel
theorem dX6_count_122 : decode cX6_count 122 = .ok (.iadd, 1) := by decide +kernel
theorem dX6_count_123 : decode cX6_count 123 = .ok (.istore_n 2, 1) := by decide +kernel
theorem dX6_count_124 : decode cX6_count 124 = .ok (.iinc 3 1, 3) := by decide +kernel
theorem dX6_count_127 : decode cX6_count 127 = .ok (.goto (-20), 3) := by decide +kernel
theorem dX6_count_130 : decode cX6_count 130 = .ok (.iload_n 2, 1) := by decide +kernel
theorem dX6_count_131 : decode cX6_count 131 = .ok (.ireturn, 1) := by decide +kernel
theorem dX6_count_132 : decode cX6_count 132 = .ok (.aload_n 0, 1) := by decide +kernel
theorem dX6_count_133 : decode cX6_count 133 = .ok (.getfield 185, 3) := by decide +kernel
theorem dX6_count_136 : decode cX6_count 136 = .ok (.ifCond .ne 7, 3) := by decide +kernel
theorem dX6_count_139 : decode cX6_count 139 = .ok (.iconst 0, 1) := by decide +kernel
theorem dX6_count_140 : decode cX6_count 140 = .ok (.goto 14, 3) := by decide +kernel
theorem dX6_count_143 : decode cX6_count 143 = .ok (.aload_n 0, 1) := by decide +kernel
theorem dX6_count_144 : decode cX6_count 144 = .ok (.getfield 68, 3) := by decide +kernel
theorem dX6_count_147 : decode cX6_count 147 = .ok (.aload_n 0, 1) := by decide +kernel
theorem dX6_count_148 : decode cX6_count 148 = .ok (.getfield 185, 3) := by decide +kernel
theorem dX6_count_151 : decode cX6_count 151 = .ok (.iconst 1, 1) := by decide +kernel
theorem dX6_count_152 : decode cX6_count 152 = .ok (.isub, 1) := by decide +kernel
theorem dX6_count_153 : decode cX6_count 153 = .ok (.iaload, 1) := by decide +kernel
theorem dX6_count_154 : decode cX6_count 154 = .ok (.ireturn, 1) := by decide +kernel
theorem dX6_count_155 : decode cX6_count 155 = .ok (.iconst 0, 1) := by decide +kernel
theorem dX6_count_156 : decode cX6_count 156 = .ok (.istore_n 3, 1) := by decide +kernel
theorem dX6_count_157 : decode cX6_count 157 = .ok (.iload_n 3, 1) := by decide +kernel
theorem dX6_count_158 : decode cX6_count 158 = .ok (.aload_n 0, 1) := by decide +kernel
theorem dX6_count_159 : decode cX6_count 159 = .ok (.getfield 167, 3) := by decide +kernel
theorem dX6_count_162 : decode cX6_count 162 = .ok (.if_icmp .ge 30, 3) := by decide +kernel
theorem dX6_count_165 : decode cX6_count 165 = .ok (.iload_n 2, 1) := by decide +kernel
theorem dX6_count_166 : decode cX6_count 166 = .ok (.aload_n 0, 1) := by decide +kernel
theorem dX6_count_167 : decode cX6_count 167 = .ok (.getfield 44, 3) := by decide +kernel
theorem dX6_count_170 : decode cX6_count 170 = .ok (.iload_n 3, 1) := by decide +kernel
theorem dX6_count_171 : decode cX6_count 171 = .ok (.iaload, 1) := by decide +kernel
theorem dX6_count_172 : decode cX6_count 172 = .ok (.iconst 1, 1) := by decide +kernel
theorem dX6_count_173 : decode cX6_count 173 = .ok (.invokestatic 209, 3) := by decide +kernel
theorem dX6_count_176 : decode cX6_count 176 = .ok (.ifCond .eq 7, 3) := by decide +kernel
theorem dX6_count_179 : decode cX6_count 179 = .ok (.iconst 1, 1) := by decide +kernel
theorem dX6_count_180 : decode cX6_count 180 = .ok (.goto 4, 3) := by decide +kernel
theorem dX6_count_183 : decode cX6_count 183 = .ok (.iconst 0, 1) := by decide +kernel
theorem dX6_count_184 : decode cX6_count 184 = .ok (.iadd, 1) := by decide +kernel
theorem dX6_count_185 : decode cX6_count 185 = .ok (.istore_n 2, 1) := by decide +kernel
theorem dX6_count_186 : decode cX6_count 186 = .ok (.iinc 3 1, 3) := by decide +kernel
theorem dX6_count_189 : decode cX6_count 189 = .ok (.goto (-32), 3) := by decide +kernel
theorem dX6_count_192 : decode cX6_count 192 = .ok (.iload_n 2, 1) := by decide +kernel
theorem dX6_count_193 : decode cX6_count 193 = .ok (.ireturn, 1) := by decide +kernel
theorem dX6_count_194 : decode cX6_count 194 = .ok (.iconst 0, 1) := by decide +kernel
theorem dX6_count_195 : decode cX6_count 195 = .ok (.istore_n 3, 1) := by decide +kernel
theorem dX6_count_196 : decode cX6_count 196 = .ok (.iload_n 3, 1) := by decide +kernel
theorem dX6_count_197 : decode cX6_count 197 = .ok (.bipush 6, 2) := by decide +kernel
theorem dX6_count_199 : decode cX6_count 199 = .ok (.if_icmp .ge 26, 3) := by decide +kernel
theorem dX6_count_202 : decode cX6_count 202 = .ok (.iload_n 2, 1) := by decide +kernel
theorem dX6_count_203 : decode cX6_count 203 = .ok (.aload_n 0, 1) := by decide +kernel
theorem dX6_count_204 : decode cX6_count 204 = .ok (.getfield 16, 3) := by decide +kernel
theorem dX6_count_207 : decode cX6_count 207 = .ok (.iload_n 3, 1) := by decide +kernel
theorem dX6_count_208 : decode cX6_count 208 = .ok (.iaload, 1) := by decide +kernel
theorem dX6_count_209 : decode cX6_count 209 = .ok (.ifCond .ge 7, 3) := by decide +kernel
theorem dX6_count_212 : decode cX6_count 212 = .ok (.iconst 0, 1) := by decide +kernel
theorem dX6_count_213 : decode cX6_count 213 = .ok (.goto 4, 3) := by decide +kernel
theorem dX6_count_216 : decode cX6_count 216 = .ok (.iconst 1, 1) := by decide +kernel
theorem dX6_count_217 : decode cX6_count 217 = .ok (.iadd, 1) := by decide +kernel
theorem dX6_count_218 : decode cX6_count 218 = .ok (.istore_n 2, 1) := by decide +kernel
theorem dX6_count_219 : decode cX6_count 219 = .ok (.iinc 3 1, 3) := by decide +kernel
theorem dX6_count_222 : decode cX6_count 222 = .ok (.goto (-26), 3) := by decide +kernel
theorem dX6_count_225 : decode cX6_count 225 = .ok (.iload_n 2, 1) := by decide +kernel
theorem dX6_count_226 : decode cX6_count 226 = .ok (.ireturn, 1) := by decide +kernel
theorem dX6_count_227 : decode cX6_count 227 = .ok (.iconst 0, 1) := by decide +kernel
theorem dX6_count_228 : decode cX6_count 228 = .ok (.istore_n 3, 1) := by decide +kernel
theorem dX6_count_229 : decode cX6_count 229 = .ok (.iload_n 3, 1) := by decide +kernel
theorem dX6_count_230 : decode cX6_count 230 = .ok (.iconst 4, 1) := by decide +kernel
theorem dX6_count_231 : decode cX6_count 231 = .ok (.if_icmp .ge 26, 3) := by decide +kernel
theorem dX6_count_234 : decode cX6_count 234 = .ok (.iload_n 2, 1) := by decide +kernel
theorem dX6_count_235 : decode cX6_count 235 = .ok (.aload_n 0, 1) := by decide +kernel
theorem dX6_count_236 : decode cX6_count 236 = .ok (.getfield 23, 3) := by decide +kernel
theorem dX6_count_239 : decode cX6_count 239 = .ok (.iload_n 3, 1) := by decide +kernel
theorem dX6_count_240 : decode cX6_count 240 = .ok (.iaload, 1) := by decide +kernel
theorem dX6_count_241 : decode cX6_count 241 = .ok (.ifCond .ge 7, 3) := by decide +kernel
theorem dX6_count_244 : decode cX6_count 244 = .ok (.iconst 0, 1) := by decide +kernel
theorem dX6_count_245 : decode cX6_count 245 = .ok (.goto 4, 3) := by decide +kernel
theorem dX6_count_248 : decode cX6_count 248 = .ok (.iconst 1, 1) := by decide +kernel
theorem dX6_count_249 : decode cX6_count 249 = .ok (.iadd, 1) := by decide +kernel
theorem dX6_count_250 : decode cX6_count 250 = .ok (.istore_n 2, 1) := by decide +kernel
theorem dX6_count_251 : decode cX6_count 251 = .ok (.iinc 3 1, 3) := by decide +kernel
theorem dX6_count_254 : decode cX6_count 254 = .ok (.goto (-25), 3) := by decide +kernel
theorem dX6_count_257 : decode cX6_count 257 = .ok (.iload_n 2, 1) := by decide +kernel
theorem dX6_count_258 : decode cX6_count 258 = .ok (.ireturn, 1) := by decide +kernel
theorem dX6_count_259 : decode cX6_count 259 = .ok (.iconst 0, 1) := by decide +kernel
theorem dX6_count_260 : decode cX6_count 260 = .ok (.istore_n 3, 1) := by decide +kernel
theorem dX6_count_261 : decode cX6_count 261 = .ok (.iload_n 3, 1) := by decide +kernel
theorem dX6_count_262 : decode cX6_count 262 = .ok (.iconst 3, 1) := by decide +kernel
theorem dX6_count_263 : decode cX6_count 263 = .ok (.if_icmp .ge 26, 3) := by decide +kernel
theorem dX6_count_266 : decode cX6_count 266 = .ok (.iload_n 2, 1) := by decide +kernel
theorem dX6_count_267 : decode cX6_count 267 = .ok (.aload_n 0, 1) := by decide +kernel
theorem dX6_count_268 : decode cX6_count 268 = .ok (.getfield 83, 3) := by decide +kernel
theorem dX6_count_271 : decode cX6_count 271 = .ok (.iload_n 3, 1) := by decide +kernel
theorem dX6_count_272 : decode cX6_count 272 = .ok (.iaload, 1) := by decide +kernel
theorem dX6_count_273 : decode cX6_count 273 = .ok (.ifCond .ge 7, 3) := by decide +kernel
theorem dX6_count_276 : decode cX6_count 276 = .ok (.iconst 0, 1) := by decide +kernel
theorem dX6_count_277 : decode cX6_count 277 = .ok (.goto 4, 3) := by decide +kernel
theorem dX6_count_280 : decode cX6_count 280 = .ok (.iconst 1, 1) := by decide +kernel
theorem dX6_count_281 : decode cX6_count 281 = .ok (.iadd, 1) := by decide +kernel
theorem dX6_count_282 : decode cX6_count 282 = .ok (.istore_n 2, 1) := by decide +kernel
theorem dX6_count_283 : decode cX6_count 283 = .ok (.iinc 3 1, 3) := by decide +kernel
theorem dX6_count_286 : decode cX6_count 286 = .ok (.goto (-25), 3) := by decide +kernel
theorem dX6_count_289 : decode cX6_count 289 = .ok (.iload_n 2, 1) := by decide +kernel
theorem dX6_count_290 : decode cX6_count 290 = .ok (.ireturn, 1) := by decide +kernel
theorem dX6_count_291 : decode cX6_count 291 = .ok (.iconst (-1), 1) := by decide +kernel
theorem dX6_count_292 : decode cX6_count 292 = .ok (.ireturn, 1) := by decide +kernel
theorem dX6_finding_0 : decode cX6_finding 0 = .ok (.aload_n 0, 1) := by decide +kernel
theorem dX6_finding_1 : decode cX6_finding 1 = .ok (.getfield 99, 3) := by decide +kernel
theorem dX6_finding_4 : decode cX6_finding 4 = .ok (.ireturn, 1) := by decide +kernel
set_option maxRecDepth 20000 in
theorem ggX6_findings_X6_in : GoodIn wsX6_findings wsX6_in := goodIn_r _ [5] (by decide +kernel) (by decide +kernel)
set_option maxRecDepth 20000 in
theorem gX6_findings_X6_in : GoodIn wsX6_findings (va_wsS RX6 109 yX6_in wsX6_in) := goodIn_app (goodIn_of _ (by decide +kernel)) ggX6_findings_X6_in
theorem dX6_findings_0 : decode cX6_findings 0 = .ok (.iload_n 1, 1) := by decide +kernel
theorem dX6_findings_1 : decode cX6_findings 1 = .ok (.iconst 1, 1) := by decide +kernel
theorem dX6_findings_2 : decode cX6_findings 2 = .ok (.iconst 5, 1) := by decide +kernel
theorem dX6_findings_3 : decode cX6_findings 3 = .ok (.invokestatic 109, 3) := by decide +kernel
theorem dX6_findings_6 : decode cX6_findings 6 = .ok (.ifCond .eq 12, 3) := by decide +kernel
theorem dX6_findings_9 : decode cX6_findings 9 = .ok (.aload_n 0, 1) := by decide +kernel
theorem dX6_findings_10 : decode cX6_findings 10 = .ok (.getfield 7, 3) := by decide +kernel
theorem dX6_findings_13 : decode cX6_findings 13 = .ok (.iload_n 1, 1) := by decide +kernel
theorem dX6_findings_14 : decode cX6_findings 14 = .ok (.iaload, 1) := by decide +kernel
theorem dX6_findings_15 : decode cX6_findings 15 = .ok (.goto 4, 3) := by decide +kernel
theorem dX6_findings_18 : decode cX6_findings 18 = .ok (.iconst (-1), 1) := by decide +kernel
theorem dX6_findings_19 : decode cX6_findings 19 = .ok (.ireturn, 1) := by decide +kernel
set_option maxRecDepth 20000 in
theorem ggX6_digest_X6_count : GoodIn wsX6_digest wsX6_count := goodIn_r _ [16, 4, 5, 17, 18, 3, 19, 20, 21, 8, 10, 7, 22, 23, 15, 24, 31, 32, 33, 34, 35, 36, 37, 38, 39, 40, 41, 42, 43, 44, 45, 46, 47, 48, 49, 50, 51, 52, 53, 54, 55, 56, 57, 58, 59, 60, 61, 62, 63, 64, 65, 66, 67, 68, 69, 70, 71, 72] (by decide +kernel) (by decide +kernel)
set_option maxRecDepth 20000 in
theorem gX6_digest_X6_count : GoodIn wsX6_digest (wsV RX6 287 RX6 yX6_count wsX6_count) := goodIn_app (goodIn_of _ (by decide +kernel)) ggX6_digest_X6_count
set_option maxRecDepth 20000 in
theorem ggX6_digest_X6_ofWoman : GoodIn wsX6_digest wsX6_ofWoman := goodIn_r _ [28, 21, 29, 30, 19, 5, 6, 31, 32, 33, 34, 35, 36, 37, 38, 39, 40, 41, 42, 43, 44, 45, 46, 47, 48, 49, 50, 51, 52, 53, 54, 55, 56, 57, 58, 59, 60, 61, 62, 63, 64, 65, 66, 67, 68, 69, 70, 71, 72] (by decide +kernel) (by decide +kernel)
set_option maxRecDepth 20000 in
theorem gX6_digest_X6_ofWoman : GoodIn wsX6_digest (wsV RX6 206 RX6 yX6_ofWoman wsX6_ofWoman) := goodIn_app (goodIn_of _ (by decide +kernel)) ggX6_digest_X6_ofWoman
theorem dX6_digest_0 : decode cX6_digest 0 = .ok (.ldc2_w 283, 3) := by decide +kernel
theorem dX6_digest_3 : decode cX6_digest 3 = .ok (.lstore_n 1, 1) := by decide +kernel
theorem dX6_digest_4 : decode cX6_digest 4 = .ok (.iconst 0, 1) := by decide +kernel
theorem dX6_digest_5 : decode cX6_digest 5 = .ok (.istore_n 3, 1) := by decide +kernel
theorem dX6_digest_6 : decode cX6_digest 6 = .ok (.iload_n 3, 1) := by decide +kernel
theorem dX6_digest_7 : decode cX6_digest 7 = .ok (.bipush 10, 2) := by decide +kernel
theorem dX6_digest_9 : decode cX6_digest 9 = .ok (.if_icmp .gt 22, 3) := by decide +kernel
theorem dX6_digest_12 : decode cX6_digest 12 = .ok (.ldc2_w 285, 3) := by decide +kernel
theorem dX6_digest_15 : decode cX6_digest 15 = .ok (.lload_n 1, 1) := by decide +kernel
theorem dX6_digest_16 : decode cX6_digest 16 = .ok (.lmul, 1) := by decide +kernel
theorem dX6_digest_17 : decode cX6_digest 17 = .ok (.aload_n 0, 1) := by decide +kernel
theorem dX6_digest_18 : decode cX6_digest 18 = .ok (.iload_n 3, 1) := by decide +kernel
theorem dX6_digest_19 : decode cX6_digest 19 = .ok (.invokevirtual 287, 3) := by decide +kernel
theorem dX6_digest_22 : decode cX6_digest 22 = .ok (.i2l, 1) := by decide +kernel
theorem dX6_digest_23 : decode cX6_digest 23 = .ok (.ladd, 1) := by decide +kernel
theorem dX6_digest_24 : decode cX6_digest 24 = .ok (.lstore_n 1, 1) := by decide +kernel
theorem dX6_digest_25 : decode cX6_digest 25 = .ok (.iinc 3 1, 3) := by decide +kernel
theorem dX6_digest_28 : decode cX6_digest 28 = .ok (.goto (-22), 3) := by decide +kernel
theorem dX6_digest_31 : decode cX6_digest 31 = .ok (.iconst 0, 1) := by decide +kernel
theorem dX6_digest_32 : decode cX6_digest 32 = .ok (.istore_n 3, 1) := by decide +kernel
theorem dX6_digest_33 : decode cX6_digest 33 = .ok (.iload_n 3, 1) := by decide +kernel
theorem dX6_digest_34 : decode cX6_digest 34 = .ok (.bipush 6, 2) := by decide +kernel
theorem dX6_digest_36 : decode cX6_digest 36 = .ok (.if_icmp .ge 23, 3) := by decide +kernel
theorem dX6_digest_39 : decode cX6_digest 39 = .ok (.ldc2_w 285, 3) := by decide +kernel
theorem dX6_digest_42 : decode cX6_digest 42 = .ok (.lload_n 1, 1) := by decide +kernel
theorem dX6_digest_43 : decode cX6_digest 43 = .ok (.lmul, 1) := by decide +kernel
theorem dX6_digest_44 : decode cX6_digest 44 = .ok (.aload_n 0, 1) := by decide +kernel
theorem dX6_digest_45 : decode cX6_digest 45 = .ok (.getfield 65, 3) := by decide +kernel
theorem dX6_digest_48 : decode cX6_digest 48 = .ok (.iload_n 3, 1) := by decide +kernel
theorem dX6_digest_49 : decode cX6_digest 49 = .ok (.iaload, 1) := by decide +kernel
theorem dX6_digest_50 : decode cX6_digest 50 = .ok (.i2l, 1) := by decide +kernel
theorem dX6_digest_51 : decode cX6_digest 51 = .ok (.ladd, 1) := by decide +kernel
theorem dX6_digest_52 : decode cX6_digest 52 = .ok (.lstore_n 1, 1) := by decide +kernel
theorem dX6_digest_53 : decode cX6_digest 53 = .ok (.iinc 3 1, 3) := by decide +kernel
theorem dX6_digest_56 : decode cX6_digest 56 = .ok (.goto (-23), 3) := by decide +kernel
theorem dX6_digest_59 : decode cX6_digest 59 = .ok (.iconst 0, 1) := by decide +kernel
theorem dX6_digest_60 : decode cX6_digest 60 = .ok (.istore_n 3, 1) := by decide +kernel
theorem dX6_digest_61 : decode cX6_digest 61 = .ok (.iload_n 3, 1) := by decide +kernel
theorem dX6_digest_62 : decode cX6_digest 62 = .ok (.aload_n 0, 1) := by decide +kernel
theorem dX6_digest_63 : decode cX6_digest 63 = .ok (.getfield 167, 3) := by decide +kernel
theorem dX6_digest_66 : decode cX6_digest 66 = .ok (.if_icmp .ge 77, 3) := by decide +kernel
theorem dX6_digest_69 : decode cX6_digest 69 = .ok (.iconst 0, 1) := by decide +kernel
theorem dX6_digest_70 : decode cX6_digest 70 = .ok (.istore 4, 2) := by decide +kernel
theorem dX6_digest_72 : decode cX6_digest 72 = .ok (.iload 4, 2) := by decide +kernel
theorem dX6_digest_74 : decode cX6_digest 74 = .ok (.iconst 5, 1) := by decide +kernel
theorem dX6_digest_75 : decode cX6_digest 75 = .ok (.if_icmp .gt 24, 3) := by decide +kernel
theorem dX6_digest_78 : decode cX6_digest 78 = .ok (.ldc2_w 285, 3) := by decide +kernel
theorem dX6_digest_81 : decode cX6_digest 81 = .ok (.lload_n 1, 1) := by decide +kernel
theorem dX6_digest_82 : decode cX6_digest 82 = .ok (.lmul, 1) := by decide +kernel
theorem dX6_digest_83 : decode cX6_digest 83 = .ok (.aload_n 0, 1) := by decide +kernel
theorem dX6_digest_84 : decode cX6_digest 84 = .ok (.iload_n 3, 1) := by decide +kernel
theorem dX6_digest_85 : decode cX6_digest 85 = .ok (.iload 4, 2) := by decide +kernel
theorem dX6_digest_87 : decode cX6_digest 87 = .ok (.invokevirtual 206, 3) := by decide +kernel
theorem dX6_digest_90 : decode cX6_digest 90 = .ok (.i2l, 1) := by decide +kernel
theorem dX6_digest_91 : decode cX6_digest 91 = .ok (.ladd, 1) := by decide +kernel
theorem dX6_digest_92 : decode cX6_digest 92 = .ok (.lstore_n 1, 1) := by decide +kernel
theorem dX6_digest_93 : decode cX6_digest 93 = .ok (.iinc 4 1, 3) := by decide +kernel
theorem dX6_digest_96 : decode cX6_digest 96 = .ok (.goto (-24), 3) := by decide +kernel
theorem dX6_digest_99 : decode cX6_digest 99 = .ok (.iconst 0, 1) := by decide +kernel
theorem dX6_digest_100 : decode cX6_digest 100 = .ok (.istore 4, 2) := by decide +kernel
theorem dX6_digest_102 : decode cX6_digest 102 = .ok (.iload 4, 2) := by decide +kernel
theorem dX6_digest_104 : decode cX6_digest 104 = .ok (.aload_n 0, 1) := by decide +kernel
theorem dX6_digest_105 : decode cX6_digest 105 = .ok (.getfield 185, 3) := by decide +kernel
theorem dX6_digest_108 : decode cX6_digest 108 = .ok (.if_icmp .ge 29, 3) := by decide +kernel
theorem dX6_digest_111 : decode cX6_digest 111 = .ok (.ldc2_w 285, 3) := by decide +kernel
theorem dX6_digest_114 : decode cX6_digest 114 = .ok (.lload_n 1, 1) := by decide +kernel
theorem dX6_digest_115 : decode cX6_digest 115 = .ok (.lmul, 1) := by decide +kernel
theorem dX6_digest_116 : decode cX6_digest 116 = .ok (.aload_n 0, 1) := by decide +kernel
theorem dX6_digest_117 : decode cX6_digest 117 = .ok (.getfield 71, 3) := by decide +kernel
theorem dX6_digest_120 : decode cX6_digest 120 = .ok (.bipush 6, 2) := by decide +kernel
theorem dX6_digest_122 : decode cX6_digest 122 = .ok (.iload 4, 2) := by decide +kernel
theorem dX6_digest_124 : decode cX6_digest 124 = .ok (.imul, 1) := by decide +kernel
theorem dX6_digest_125 : decode cX6_digest 125 = .ok (.iload_n 3, 1) := by decide +kernel
theorem dX6_digest_126 : decode cX6_digest 126 = .ok (.iadd, 1) := by decide +kernel
theorem dX6_digest_127 : decode cX6_digest 127 = .ok (.iaload, 1) := by decide +kernel
theorem dX6_digest_128 : decode cX6_digest 128 = .ok (.i2l, 1) := by decide +kernel
theorem dX6_digest_129 : decode cX6_digest 129 = .ok (.ladd, 1) := by decide +kernel
theorem dX6_digest_130 : decode cX6_digest 130 = .ok (.lstore_n 1, 1) := by decide +kernel
theorem dX6_digest_131 : decode cX6_digest 131 = .ok (.iinc 4 1, 3) := by decide +kernel
theorem dX6_digest_134 : decode cX6_digest 134 = .ok (.goto (-32), 3) := by decide +kernel
theorem dX6_digest_137 : decode cX6_digest 137 = .ok (.iinc 3 1, 3) := by decide +kernel
theorem dX6_digest_140 : decode cX6_digest 140 = .ok (.goto (-79), 3) := by decide +kernel
theorem dX6_digest_143 : decode cX6_digest 143 = .ok (.iconst 0, 1) := by decide +kernel
theorem dX6_digest_144 : decode cX6_digest 144 = .ok (.istore_n 3, 1) := by decide +kernel
theorem dX6_digest_145 : decode cX6_digest 145 = .ok (.iload_n 3, 1) := by decide +kernel
theorem dX6_digest_146 : decode cX6_digest 146 = .ok (.iconst 3, 1) := by decide +kernel
theorem dX6_digest_147 : decode cX6_digest 147 = .ok (.if_icmp .ge 23, 3) := by decide +kernel
theorem dX6_digest_150 : decode cX6_digest 150 = .ok (.ldc2_w 285, 3) := by decide +kernel
theorem dX6_digest_153 : decode cX6_digest 153 = .ok (.lload_n 1, 1) := by decide +kernel
theorem dX6_digest_154 : decode cX6_digest 154 = .ok (.lmul, 1) := by decide +kernel
theorem dX6_digest_155 : decode cX6_digest 155 = .ok (.aload_n 0, 1) := by decide +kernel
theorem dX6_digest_156 : decode cX6_digest 156 = .ok (.getfield 83, 3) := by decide +kernel
theorem dX6_digest_159 : decode cX6_digest 159 = .ok (.iload_n 3, 1) := by decide +kernel
theorem dX6_digest_160 : decode cX6_digest 160 = .ok (.iaload, 1) := by decide +kernel
theorem dX6_digest_161 : decode cX6_digest 161 = .ok (.i2l, 1) := by decide +kernel
theorem dX6_digest_162 : decode cX6_digest 162 = .ok (.ladd, 1) := by decide +kernel
theorem dX6_digest_163 : decode cX6_digest 163 = .ok (.lstore_n 1, 1) := by decide +kernel
theorem dX6_digest_164 : decode cX6_digest 164 = .ok (.iinc 3 1, 3) := by decide +kernel
theorem dX6_digest_167 : decode cX6_digest 167 = .ok (.goto (-22), 3) := by decide +kernel
theorem dX6_digest_170 : decode cX6_digest 170 = .ok (.iconst 0, 1) := by decide +kernel
theorem dX6_digest_171 : decode cX6_digest 171 = .ok (.istore_n 3, 1) := by decide +kernel
theorem dX6_digest_172 : decode cX6_digest 172 = .ok (.iload_n 3, 1) := by decide +kernel
theorem dX6_digest_173 : decode cX6_digest 173 = .ok (.bipush 6, 2) := by decide +kernel
theorem dX6_digest_175 : decode cX6_digest 175 = .ok (.if_icmp .ge 63, 3) := by decide +kernel
theorem dX6_digest_178 : decode cX6_digest 178 = .ok (.ldc2_w 285, 3) := by decide +kernel
theorem dX6_digest_181 : decode cX6_digest 181 = .ok (.lload_n 1, 1) := by decide +kernel
theorem dX6_digest_182 : decode cX6_digest 182 = .ok (.lmul, 1) := by decide +kernel
theorem dX6_digest_183 : decode cX6_digest 183 = .ok (.aload_n 0, 1) := by decide +kernel
theorem dX6_digest_184 : decode cX6_digest 184 = .ok (.getfield 16, 3) := by decide +kernel
theorem dX6_digest_187 : decode cX6_digest 187 = .ok (.iload_n 3, 1) := by decide +kernel
theorem dX6_digest_188 : decode cX6_digest 188 = .ok (.iaload, 1) := by decide +kernel
theorem dX6_digest_189 : decode cX6_digest 189 = .ok (.i2l, 1) := by decide +kernel
theorem dX6_digest_190 : decode cX6_digest 190 = .ok (.ladd, 1) := by decide +kernel
theorem dX6_digest_191 : decode cX6_digest 191 = .ok (.lstore_n 1, 1) := by decide +kernel
theorem dX6_digest_192 : decode cX6_digest 192 = .ok (.iconst 0, 1) := by decide +kernel
theorem dX6_digest_193 : decode cX6_digest 193 = .ok (.istore 4, 2) := by decide +kernel
theorem dX6_digest_195 : decode cX6_digest 195 = .ok (.iload 4, 2) := by decide +kernel
theorem dX6_digest_197 : decode cX6_digest 197 = .ok (.aload_n 0, 1) := by decide +kernel
theorem dX6_digest_198 : decode cX6_digest 198 = .ok (.getfield 16, 3) := by decide +kernel
theorem dX6_digest_201 : decode cX6_digest 201 = .ok (.iload_n 3, 1) := by decide +kernel
theorem dX6_digest_202 : decode cX6_digest 202 = .ok (.iaload, 1) := by decide +kernel
theorem dX6_digest_203 : decode cX6_digest 203 = .ok (.if_icmp .ge 29, 3) := by decide +kernel
theorem dX6_digest_206 : decode cX6_digest 206 = .ok (.ldc2_w 285, 3) := by decide +kernel
theorem dX6_digest_209 : decode cX6_digest 209 = .ok (.lload_n 1, 1) := by decide +kernel
theorem dX6_digest_210 : decode cX6_digest 210 = .ok (.lmul, 1) := by decide +kernel
theorem dX6_digest_211 : decode cX6_digest 211 = .ok (.aload_n 0, 1) := by decide +kernel
theorem dX6_digest_212 : decode cX6_digest 212 = .ok (.getfield 13, 3) := by decide +kernel
theorem dX6_digest_215 : decode cX6_digest 215 = .ok (.bipush 40, 2) := by decide +kernel
theorem dX6_digest_217 : decode cX6_digest 217 = .ok (.iload_n 3, 1) := by decide +kernel
theorem dX6_digest_218 : decode cX6_digest 218 = .ok (.imul, 1) := by decide +kernel
theorem dX6_digest_219 : decode cX6_digest 219 = .ok (.iload 4, 2) := by decide +kernel
theorem dX6_digest_221 : decode cX6_digest 221 = .ok (.iadd, 1) := by decide +kernel
theorem dX6_digest_222 : decode cX6_digest 222 = .ok (.iaload, 1) := by decide +kernel
theorem dX6_digest_223 : decode cX6_digest 223 = .ok (.i2l, 1) := by decide +kernel
theorem dX6_digest_224 : decode cX6_digest 224 = .ok (.ladd, 1) := by decide +kernel
theorem dX6_digest_225 : decode cX6_digest 225 = .ok (.lstore_n 1, 1) := by decide +kernel
theorem dX6_digest_226 : decode cX6_digest 226 = .ok (.iinc 4 1, 3) := by decide +kernel
theorem dX6_digest_229 : decode cX6_digest 229 = .ok (.goto (-34), 3) := by decide +kernel
theorem dX6_digest_232 : decode cX6_digest 232 = .ok (.iinc 3 1, 3) := by decide +kernel
theorem dX6_digest_235 : decode cX6_digest 235 = .ok (.goto (-63), 3) := by decide +kernel
theorem dX6_digest_238 : decode cX6_digest 238 = .ok (.iconst 0, 1) := by decide +kernel
theorem dX6_digest_239 : decode cX6_digest 239 = .ok (.istore_n 3, 1) := by decide +kernel
theorem dX6_digest_240 : decode cX6_digest 240 = .ok (.iload_n 3, 1) := by decide +kernel
theorem dX6_digest_241 : decode cX6_digest 241 = .ok (.iconst 4, 1) := by decide +kernel
theorem dX6_digest_242 : decode cX6_digest 242 = .ok (.if_icmp .ge 63, 3) := by decide +kernel
theorem dX6_digest_245 : decode cX6_digest 245 = .ok (.ldc2_w 285, 3) := by decide +kernel
theorem dX6_digest_248 : decode cX6_digest 248 = .ok (.lload_n 1, 1) := by decide +kernel
theorem dX6_digest_249 : decode cX6_digest 249 = .ok (.lmul, 1) := by decide +kernel
theorem dX6_digest_250 : decode cX6_digest 250 = .ok (.aload_n 0, 1) := by decide +kernel
theorem dX6_digest_251 : decode cX6_digest 251 = .ok (.getfield 23, 3) := by decide +kernel
theorem dX6_digest_254 : decode cX6_digest 254 = .ok (.iload_n 3, 1) := by decide +kernel
theorem dX6_digest_255 : decode cX6_digest 255 = .ok (.iaload, 1) := by decide +kernel
theorem dX6_digest_256 : decode cX6_digest 256 = .ok (.i2l, 1) := by decide +kernel
theorem dX6_digest_257 : decode cX6_digest 257 = .ok (.ladd, 1) := by decide +kernel
theorem dX6_digest_258 : decode cX6_digest 258 = .ok (.lstore_n 1, 1) := by decide +kernel
theorem dX6_digest_259 : decode cX6_digest 259 = .ok (.iconst 0, 1) := by decide +kernel
theorem dX6_digest_260 : decode cX6_digest 260 = .ok (.istore 4, 2) := by decide +kernel
theorem dX6_digest_262 : decode cX6_digest 262 = .ok (.iload 4, 2) := by decide +kernel
theorem dX6_digest_264 : decode cX6_digest 264 = .ok (.aload_n 0, 1) := by decide +kernel
theorem dX6_digest_265 : decode cX6_digest 265 = .ok (.getfield 23, 3) := by decide +kernel
theorem dX6_digest_268 : decode cX6_digest 268 = .ok (.iload_n 3, 1) := by decide +kernel
theorem dX6_digest_269 : decode cX6_digest 269 = .ok (.iaload, 1) := by decide +kernel
theorem dX6_digest_270 : decode cX6_digest 270 = .ok (.if_icmp .ge 29, 3) := by decide +kernel
theorem dX6_digest_273 : decode cX6_digest 273 = .ok (.ldc2_w 285, 3) := by decide +kernel
theorem dX6_digest_276 : decode cX6_digest 276 = .ok (.lload_n 1, 1) := by decide +kernel
theorem dX6_digest_277 : decode cX6_digest 277 = .ok (.lmul, 1) := by decide +kernel
theorem dX6_digest_278 : decode cX6_digest 278 = .ok (.aload_n 0, 1) := by decide +kernel
theorem dX6_digest_279 : decode cX6_digest 279 = .ok (.getfield 19, 3) := by decide +kernel
theorem dX6_digest_282 : decode cX6_digest 282 = .ok (.bipush 60, 2) := by decide +kernel
theorem dX6_digest_284 : decode cX6_digest 284 = .ok (.iload_n 3, 1) := by decide +kernel
theorem dX6_digest_285 : decode cX6_digest 285 = .ok (.imul, 1) := by decide +kernel
theorem dX6_digest_286 : decode cX6_digest 286 = .ok (.iload 4, 2) := by decide +kernel
theorem dX6_digest_288 : decode cX6_digest 288 = .ok (.iadd, 1) := by decide +kernel
theorem dX6_digest_289 : decode cX6_digest 289 = .ok (.baload, 1) := by decide +kernel
theorem dX6_digest_290 : decode cX6_digest 290 = .ok (.i2l, 1) := by decide +kernel
theorem dX6_digest_291 : decode cX6_digest 291 = .ok (.ladd, 1) := by decide +kernel
theorem dX6_digest_292 : decode cX6_digest 292 = .ok (.lstore_n 1, 1) := by decide +kernel
theorem dX6_digest_293 : decode cX6_digest 293 = .ok (.iinc 4 1, 3) := by decide +kernel
theorem dX6_digest_296 : decode cX6_digest 296 = .ok (.goto (-34), 3) := by decide +kernel
theorem dX6_digest_299 : decode cX6_digest 299 = .ok (.iinc 3 1, 3) := by decide +kernel
theorem dX6_digest_302 : decode cX6_digest 302 = .ok (.goto (-62), 3) := by decide +kernel
theorem dX6_digest_305 : decode cX6_digest 305 = .ok (.lload_n 1, 1) := by decide +kernel
theorem dX6_digest_306 : decode cX6_digest 306 = .ok (.lreturn, 1) := by decide +kernel
