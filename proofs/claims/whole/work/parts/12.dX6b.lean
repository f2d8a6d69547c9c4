set_option maxRecDepth 20000 in
theorem ggX6_readWoman_X6_figure : GoodIn wsX6_readWoman wsX6_figure := goodIn_r _ [22, 3, 2, 8, 9, 10, 11, 12, 13, 14, 15, 23, 24, 25, 26, 27, 28, 29, 30, 31, 32, 33, 34, 35, 36, 37, 38, 39, 40, 41, 42, 43, 44, 45, 46, 47, 48, 49, 50, 51, 52, 53, 54, 55, 56, 57, 58, 59, 60, 61, 62, 63, 64, 65, 66, 67] (by decide +kernel) (by decide +kernel)
set_option maxRecDepth 20000 in
theorem gX6_readWoman_X6_figure : GoodIn wsX6_readWoman (wsV RX6 150 RX6 yX6_figure wsX6_figure) := goodIn_app (goodIn_of _ (by decide +kernel)) ggX6_readWoman_X6_figure
theorem dX6_readWoman_0 : decode cX6_readWoman 0 = .ok (.aload_n 0, 1) := by decide +kernel
theorem dX6_readWoman_1 : decode cX6_readWoman 1 = .ok (.invokevirtual 137, 3) := by decide +kernel
theorem dX6_readWoman_4 : decode cX6_readWoman 4 = .ok (.invokestatic 144, 3) := by decide +kernel
theorem dX6_readWoman_7 : decode cX6_readWoman 7 = .ok (.istore_n 1, 1) := by decide +kernel
theorem dX6_readWoman_8 : decode cX6_readWoman 8 = .ok (.iload_n 1, 1) := by decide +kernel
theorem dX6_readWoman_9 : decode cX6_readWoman 9 = .ok (.bipush (-9), 2) := by decide +kernel
theorem dX6_readWoman_11 : decode cX6_readWoman 11 = .ok (.if_icmp .eq 12, 3) := by decide +kernel
theorem dX6_readWoman_14 : decode cX6_readWoman 14 = .ok (.aload_n 0, 1) := by decide +kernel
theorem dX6_readWoman_15 : decode cX6_readWoman 15 = .ok (.getfield 147, 3) := by decide +kernel
theorem dX6_readWoman_18 : decode cX6_readWoman 18 = .ok (.bipush 6, 2) := by decide +kernel
theorem dX6_readWoman_20 : decode cX6_readWoman 20 = .ok (.if_icmp .ne 12, 3) := by decide +kernel
theorem dX6_readWoman_23 : decode cX6_readWoman 23 = .ok (.aload_n 0, 1) := by decide +kernel
theorem dX6_readWoman_24 : decode cX6_readWoman 24 = .ok (.aload_n 0, 1) := by decide +kernel
theorem dX6_readWoman_25 : decode cX6_readWoman 25 = .ok (.getfield 131, 3) := by decide +kernel
theorem dX6_readWoman_28 : decode cX6_readWoman 28 = .ok (.putfield 141, 3) := by decide +kernel
theorem dX6_readWoman_31 : decode cX6_readWoman 31 = .ok (.return_, 1) := by decide +kernel
theorem dX6_readWoman_32 : decode cX6_readWoman 32 = .ok (.aload_n 0, 1) := by decide +kernel
theorem dX6_readWoman_33 : decode cX6_readWoman 33 = .ok (.dup, 1) := by decide +kernel
theorem dX6_readWoman_34 : decode cX6_readWoman 34 = .ok (.getfield 131, 3) := by decide +kernel
theorem dX6_readWoman_37 : decode cX6_readWoman 37 = .ok (.iconst 1, 1) := by decide +kernel
theorem dX6_readWoman_38 : decode cX6_readWoman 38 = .ok (.iadd, 1) := by decide +kernel
theorem dX6_readWoman_39 : decode cX6_readWoman 39 = .ok (.putfield 131, 3) := by decide +kernel
theorem dX6_readWoman_42 : decode cX6_readWoman 42 = .ok (.aload_n 0, 1) := by decide +kernel
theorem dX6_readWoman_43 : decode cX6_readWoman 43 = .ok (.getfield 32, 3) := by decide +kernel
theorem dX6_readWoman_46 : decode cX6_readWoman 46 = .ok (.aload_n 0, 1) := by decide +kernel
theorem dX6_readWoman_47 : decode cX6_readWoman 47 = .ok (.getfield 147, 3) := by decide +kernel
theorem dX6_readWoman_50 : decode cX6_readWoman 50 = .ok (.iload_n 1, 1) := by decide +kernel
theorem dX6_readWoman_51 : decode cX6_readWoman 51 = .ok (.iastore, 1) := by decide +kernel
theorem dX6_readWoman_52 : decode cX6_readWoman 52 = .ok (.aload_n 0, 1) := by decide +kernel
theorem dX6_readWoman_53 : decode cX6_readWoman 53 = .ok (.getfield 35, 3) := by decide +kernel
theorem dX6_readWoman_56 : decode cX6_readWoman 56 = .ok (.aload_n 0, 1) := by decide +kernel
theorem dX6_readWoman_57 : decode cX6_readWoman 57 = .ok (.getfield 147, 3) := by decide +kernel
theorem dX6_readWoman_60 : decode cX6_readWoman 60 = .ok (.aload_n 0, 1) := by decide +kernel
theorem dX6_readWoman_61 : decode cX6_readWoman 61 = .ok (.iconst 0, 1) := by decide +kernel
theorem dX6_readWoman_62 : decode cX6_readWoman 62 = .ok (.iconst 5, 1) := by decide +kernel
theorem dX6_readWoman_63 : decode cX6_readWoman 63 = .ok (.invokevirtual 150, 3) := by decide +kernel
theorem dX6_readWoman_66 : decode cX6_readWoman 66 = .ok (.iastore, 1) := by decide +kernel
theorem dX6_readWoman_67 : decode cX6_readWoman 67 = .ok (.aload_n 0, 1) := by decide +kernel
theorem dX6_readWoman_68 : decode cX6_readWoman 68 = .ok (.getfield 38, 3) := by decide +kernel
theorem dX6_readWoman_71 : decode cX6_readWoman 71 = .ok (.aload_n 0, 1) := by decide +kernel
theorem dX6_readWoman_72 : decode cX6_readWoman 72 = .ok (.getfield 147, 3) := by decide +kernel
theorem dX6_readWoman_75 : decode cX6_readWoman 75 = .ok (.aload_n 0, 1) := by decide +kernel
theorem dX6_readWoman_76 : decode cX6_readWoman 76 = .ok (.iconst 1, 1) := by decide +kernel
theorem dX6_readWoman_77 : decode cX6_readWoman 77 = .ok (.bipush 9, 2) := by decide +kernel
theorem dX6_readWoman_79 : decode cX6_readWoman 79 = .ok (.invokevirtual 150, 3) := by decide +kernel
theorem dX6_readWoman_82 : decode cX6_readWoman 82 = .ok (.iastore, 1) := by decide +kernel
theorem dX6_readWoman_83 : decode cX6_readWoman 83 = .ok (.aload_n 0, 1) := by decide +kernel
theorem dX6_readWoman_84 : decode cX6_readWoman 84 = .ok (.getfield 41, 3) := by decide +kernel
theorem dX6_readWoman_87 : decode cX6_readWoman 87 = .ok (.aload_n 0, 1) := by decide +kernel
theorem dX6_readWoman_88 : decode cX6_readWoman 88 = .ok (.getfield 147, 3) := by decide +kernel
theorem dX6_readWoman_91 : decode cX6_readWoman 91 = .ok (.aload_n 0, 1) := by decide +kernel
theorem dX6_readWoman_92 : decode cX6_readWoman 92 = .ok (.iconst 0, 1) := by decide +kernel
theorem dX6_readWoman_93 : decode cX6_readWoman 93 = .ok (.iconst 3, 1) := by decide +kernel
theorem dX6_readWoman_94 : decode cX6_readWoman 94 = .ok (.invokevirtual 150, 3) := by decide +kernel
theorem dX6_readWoman_97 : decode cX6_readWoman 97 = .ok (.iastore, 1) := by decide +kernel
theorem dX6_readWoman_98 : decode cX6_readWoman 98 = .ok (.aload_n 0, 1) := by decide +kernel
theorem dX6_readWoman_99 : decode cX6_readWoman 99 = .ok (.dup, 1) := by decide +kernel
theorem dX6_readWoman_100 : decode cX6_readWoman 100 = .ok (.getfield 147, 3) := by decide +kernel
theorem dX6_readWoman_103 : decode cX6_readWoman 103 = .ok (.iconst 1, 1) := by decide +kernel
theorem dX6_readWoman_104 : decode cX6_readWoman 104 = .ok (.iadd, 1) := by decide +kernel
theorem dX6_readWoman_105 : decode cX6_readWoman 105 = .ok (.putfield 147, 3) := by decide +kernel
theorem dX6_readWoman_108 : decode cX6_readWoman 108 = .ok (.return_, 1) := by decide +kernel
set_option maxRecDepth 20000 in
theorem ggX6_read_X6_skip : GoodIn wsX6_read wsX6_skip := goodIn_r _ [12, 2, 13, 14, 15, 11, 16, 7, 1, 17, 36, 37, 38, 39, 40, 41, 42, 43, 44, 45, 46, 47, 48, 49, 50, 51, 52, 53, 54, 55, 56, 57, 58, 59, 60, 61, 62, 63, 64, 65, 66, 67, 68, 69, 70, 71, 72, 73, 74, 75, 76, 77] (by decide +kernel) (by decide +kernel)
set_option maxRecDepth 20000 in
theorem gX6_read_X6_skip : GoodIn wsX6_read (wsV RX6 154 RX6 yX6_skip wsX6_skip) := goodIn_app (goodIn_of _ (by decide +kernel)) ggX6_read_X6_skip
set_option maxRecDepth 20000 in
theorem ggX6_read_X6_here : GoodIn wsX6_read wsX6_here := goodIn_r _ [16, 2, 7, 1, 17, 36, 37, 38, 39, 40, 41, 42, 43, 44, 45, 46, 47, 48, 49, 50, 51, 52, 53, 54, 55, 56, 57, 58, 59, 60, 61, 62, 63, 64, 65, 66, 67, 68, 69, 70, 71, 72, 73, 74, 75, 76, 77] (by decide +kernel) (by decide +kernel)
set_option maxRecDepth 20000 in
theorem gX6_read_X6_here : GoodIn wsX6_read (wsV RX6 137 RX6 yX6_here wsX6_here) := goodIn_app (goodIn_of _ (by decide +kernel)) ggX6_read_X6_here
set_option maxRecDepth 20000 in
theorem ggX6_read_X6_figure : GoodIn wsX6_read wsX6_figure := goodIn_r _ [21, 3, 2, 13, 14, 15, 11, 16, 7, 1, 17, 22, 23, 24, 36, 37, 38, 39, 40, 41, 42, 43, 44, 45, 46, 47, 48, 49, 50, 51, 52, 53, 54, 55, 56, 57, 58, 59, 60, 61, 62, 63, 64, 65, 66, 67, 68, 69, 70, 71, 72, 73, 74, 75, 76, 77] (by decide +kernel) (by decide +kernel)
set_option maxRecDepth 20000 in
theorem gX6_read_X6_figure : GoodIn wsX6_read (wsV RX6 150 RX6 yX6_figure wsX6_figure) := goodIn_app (goodIn_of _ (by decide +kernel)) ggX6_read_X6_figure
set_option maxRecDepth 20000 in
theorem ggX6_read_X6_readWoman : GoodIn wsX6_read wsX6_readWoman := goodIn_r _ [28, 4, 2, 3, 29, 30, 31, 32, 13, 14, 15, 11, 16, 7, 1, 17, 33, 34, 35, 18, 19, 20, 21, 22, 23, 24, 36, 37, 38, 39, 40, 41, 42, 43, 44, 45, 46, 47, 48, 49, 50, 51, 52, 53, 54, 55, 56, 57, 58, 59, 60, 61, 62, 63, 64, 65, 66, 67, 68, 69, 70, 71, 72, 73, 74, 75, 76, 77] (by decide +kernel) (by decide +kernel)
set_option maxRecDepth 20000 in
theorem gX6_read_X6_readWoman : GoodIn wsX6_read (wsV RX6 160 RX6 yX6_readWoman wsX6_readWoman) := goodIn_app (goodIn_of _ (by decide +kernel)) ggX6_read_X6_readWoman
theorem dX6_read_0 : decode cX6_read 0 = .ok (.aload_n 0, 1) := by decide +kernel
theorem dX6_read_1 : decode cX6_read 1 = .ok (.iload_n 1, 1) := by decide +kernel
theorem dX6_read_2 : decode cX6_read 2 = .ok (.putfield 134, 3) := by decide +kernel
theorem dX6_read_5 : decode cX6_read 5 = .ok (.aload_n 0, 1) := by decide +kernel
theorem dX6_read_6 : decode cX6_read 6 = .ok (.iconst 0, 1) := by decide +kernel
theorem dX6_read_7 : decode cX6_read 7 = .ok (.putfield 131, 3) := by decide +kernel
theorem dX6_read_10 : decode cX6_read 10 = .ok (.aload_n 0, 1) := by decide +kernel
theorem dX6_read_11 : decode cX6_read 11 = .ok (.bipush (-9), 2) := by decide +kernel
theorem dX6_read_13 : decode cX6_read 13 = .ok (.putfield 141, 3) := by decide +kernel
theorem dX6_read_16 : decode cX6_read 16 = .ok (.aload_n 0, 1) := by decide +kernel
theorem dX6_read_17 : decode cX6_read 17 = .ok (.iconst 0, 1) := by decide +kernel
theorem dX6_read_18 : decode cX6_read 18 = .ok (.putfield 147, 3) := by decide +kernel
theorem dX6_read_21 : decode cX6_read 21 = .ok (.aload_n 0, 1) := by decide +kernel
theorem dX6_read_22 : decode cX6_read 22 = .ok (.invokevirtual 154, 3) := by decide +kernel
theorem dX6_read_25 : decode cX6_read 25 = .ok (.aload_n 0, 1) := by decide +kernel
theorem dX6_read_26 : decode cX6_read 26 = .ok (.invokevirtual 137, 3) := by decide +kernel
theorem dX6_read_29 : decode cX6_read 29 = .ok (.bipush 100, 2) := by decide +kernel
theorem dX6_read_31 : decode cX6_read 31 = .ok (.if_icmp .ne 16, 3) := by decide +kernel
theorem dX6_read_34 : decode cX6_read 34 = .ok (.aload_n 0, 1) := by decide +kernel
theorem dX6_read_35 : decode cX6_read 35 = .ok (.dup, 1) := by decide +kernel
theorem dX6_read_36 : decode cX6_read 36 = .ok (.getfield 131, 3) := by decide +kernel
theorem dX6_read_39 : decode cX6_read 39 = .ok (.iconst 1, 1) := by decide +kernel
theorem dX6_read_40 : decode cX6_read 40 = .ok (.iadd, 1) := by decide +kernel
theorem dX6_read_41 : decode cX6_read 41 = .ok (.putfield 131, 3) := by decide +kernel
theorem dX6_read_44 : decode cX6_read 44 = .ok (.goto 11, 3) := by decide +kernel
theorem dX6_read_47 : decode cX6_read 47 = .ok (.aload_n 0, 1) := by decide +kernel
theorem dX6_read_48 : decode cX6_read 48 = .ok (.aload_n 0, 1) := by decide +kernel
theorem dX6_read_49 : decode cX6_read 49 = .ok (.getfield 131, 3) := by decide +kernel
theorem dX6_read_52 : decode cX6_read 52 = .ok (.putfield 141, 3) := by decide +kernel
theorem dX6_read_55 : decode cX6_read 55 = .ok (.iconst 0, 1) := by decide +kernel
theorem dX6_read_56 : decode cX6_read 56 = .ok (.istore_n 2, 1) := by decide +kernel
theorem dX6_read_57 : decode cX6_read 57 = .ok (.iload_n 2, 1) := by decide +kernel
theorem dX6_read_58 : decode cX6_read 58 = .ok (.bipush 6, 2) := by decide +kernel
theorem dX6_read_60 : decode cX6_read 60 = .ok (.if_icmp .ge 22, 3) := by decide +kernel
theorem dX6_read_63 : decode cX6_read 63 = .ok (.aload_n 0, 1) := by decide +kernel
theorem dX6_read_64 : decode cX6_read 64 = .ok (.getfield 29, 3) := by decide +kernel
theorem dX6_read_67 : decode cX6_read 67 = .ok (.iload_n 2, 1) := by decide +kernel
theorem dX6_read_68 : decode cX6_read 68 = .ok (.aload_n 0, 1) := by decide +kernel
theorem dX6_read_69 : decode cX6_read 69 = .ok (.iconst 0, 1) := by decide +kernel
theorem dX6_read_70 : decode cX6_read 70 = .ok (.bipush 9, 2) := by decide +kernel
theorem dX6_read_72 : decode cX6_read 72 = .ok (.invokevirtual 150, 3) := by decide +kernel
theorem dX6_read_75 : decode cX6_read 75 = .ok (.iastore, 1) := by decide +kernel
theorem dX6_read_76 : decode cX6_read 76 = .ok (.iinc 2 1, 3) := by decide +kernel
theorem dX6_read_79 : decode cX6_read 79 = .ok (.goto (-22), 3) := by decide +kernel
theorem dX6_read_82 : decode cX6_read 82 = .ok (.aload_n 0, 1) := by decide +kernel
theorem dX6_read_83 : decode cX6_read 83 = .ok (.aload_n 0, 1) := by decide +kernel
theorem dX6_read_84 : decode cX6_read 84 = .ok (.iconst 0, 1) := by decide +kernel
theorem dX6_read_85 : decode cX6_read 85 = .ok (.bipush 9, 2) := by decide +kernel
theorem dX6_read_87 : decode cX6_read 87 = .ok (.invokevirtual 150, 3) := by decide +kernel
theorem dX6_read_90 : decode cX6_read 90 = .ok (.putfield 157, 3) := by decide +kernel
theorem dX6_read_93 : decode cX6_read 93 = .ok (.aload_n 0, 1) := by decide +kernel
theorem dX6_read_94 : decode cX6_read 94 = .ok (.getfield 141, 3) := by decide +kernel
theorem dX6_read_97 : decode cX6_read 97 = .ok (.bipush (-9), 2) := by decide +kernel
theorem dX6_read_99 : decode cX6_read 99 = .ok (.if_icmp .ne 7, 3) := by decide +kernel
theorem dX6_read_102 : decode cX6_read 102 = .ok (.iconst 1, 1) := by decide +kernel
theorem dX6_read_103 : decode cX6_read 103 = .ok (.goto 4, 3) := by decide +kernel
theorem dX6_read_106 : decode cX6_read 106 = .ok (.iconst 0, 1) := by decide +kernel
theorem dX6_read_107 : decode cX6_read 107 = .ok (.istore_n 2, 1) := by decide +kernel
theorem dX6_read_108 : decode cX6_read 108 = .ok (.iload_n 2, 1) := by decide +kernel
theorem dX6_read_109 : decode cX6_read 109 = .ok (.ifCond .eq 59, 3) := by decide +kernel
theorem dX6_read_112 : decode cX6_read 112 = .ok (.aload_n 0, 1) := by decide +kernel
theorem dX6_read_113 : decode cX6_read 113 = .ok (.invokevirtual 154, 3) := by decide +kernel
theorem dX6_read_116 : decode cX6_read 116 = .ok (.aload_n 0, 1) := by decide +kernel
theorem dX6_read_117 : decode cX6_read 117 = .ok (.getfield 131, 3) := by decide +kernel
theorem dX6_read_120 : decode cX6_read 120 = .ok (.aload_n 0, 1) := by decide +kernel
theorem dX6_read_121 : decode cX6_read 121 = .ok (.getfield 23, 3) := by decide +kernel
theorem dX6_read_124 : decode cX6_read 124 = .ok (.iload_n 1, 1) := by decide +kernel
theorem dX6_read_125 : decode cX6_read 125 = .ok (.iaload, 1) := by decide +kernel
theorem dX6_read_126 : decode cX6_read 126 = .ok (.if_icmp .lt 10, 3) := by decide +kernel
theorem dX6_read_129 : decode cX6_read 129 = .ok (.aload_n 0, 1) := by decide +kernel
theorem dX6_read_130 : decode cX6_read 130 = .ok (.getfield 147, 3) := by decide +kernel
theorem dX6_read_133 : decode cX6_read 133 = .ok (.ifCond .ne 7, 3) := by decide +kernel
theorem dX6_read_136 : decode cX6_read 136 = .ok (.iconst 1, 1) := by decide +kernel
theorem dX6_read_137 : decode cX6_read 137 = .ok (.goto 4, 3) := by decide +kernel
theorem dX6_read_140 : decode cX6_read 140 = .ok (.iconst 0, 1) := by decide +kernel
theorem dX6_read_141 : decode cX6_read 141 = .ok (.istore_n 2, 1) := by decide +kernel
theorem dX6_read_142 : decode cX6_read 142 = .ok (.iload_n 2, 1) := by decide +kernel
theorem dX6_read_143 : decode cX6_read 143 = .ok (.ifCond .eq (-35), 3) := by decide +kernel
theorem dX6_read_146 : decode cX6_read 146 = .ok (.aload_n 0, 1) := by decide +kernel
theorem dX6_read_147 : decode cX6_read 147 = .ok (.invokevirtual 160, 3) := by decide +kernel
theorem dX6_read_150 : decode cX6_read 150 = .ok (.aload_n 0, 1) := by decide +kernel
theorem dX6_read_151 : decode cX6_read 151 = .ok (.getfield 141, 3) := by decide +kernel
theorem dX6_read_154 : decode cX6_read 154 = .ok (.bipush (-9), 2) := by decide +kernel
theorem dX6_read_156 : decode cX6_read 156 = .ok (.if_icmp .ne 7, 3) := by decide +kernel
theorem dX6_read_159 : decode cX6_read 159 = .ok (.iconst 1, 1) := by decide +kernel
theorem dX6_read_160 : decode cX6_read 160 = .ok (.goto 4, 3) := by decide +kernel
theorem dX6_read_163 : decode cX6_read 163 = .ok (.iconst 0, 1) := by decide +kernel
theorem dX6_read_164 : decode cX6_read 164 = .ok (.istore_n 2, 1) := by decide +kernel
theorem dX6_read_165 : decode cX6_read 165 = .ok (.goto (-57), 3) := by decide +kernel
theorem dX6_read_168 : decode cX6_read 168 = .ok (.return_, 1) := by decide +kernel
set_option maxRecDepth 20000 in
theorem ggX6_fault_X6_isText : GoodIn wsX6_fault wsX6_isText := goodIn_r _ [6, 7, 8, 5, 9] (by decide +kernel) (by decide +kernel)
set_option maxRecDepth 20000 in
theorem gX6_fault_X6_isText : GoodIn wsX6_fault (va_wsS RX6 128 yX6_isText wsX6_isText) := goodIn_app (goodIn_of _ (by decide +kernel)) ggX6_fault_X6_isText
set_option maxRecDepth 20000 in
theorem ggX6_fault_X6_refuse : GoodIn wsX6_fault wsX6_refuse := goodIn_r _ [13, 14, 15, 49, 50, 51, 52, 53, 54, 55, 56, 57, 58, 59, 60, 61, 62, 63, 64, 65, 66, 67, 68, 69, 70, 71, 72, 73, 74, 75, 76, 77, 78, 79, 80, 81, 82, 83, 84, 85, 86, 87, 88, 89, 90] (by decide +kernel) (by decide +kernel)
set_option maxRecDepth 20000 in
theorem gX6_fault_X6_refuse : GoodIn wsX6_fault (wsV RX6 117 RX6 yX6_refuse wsX6_refuse) := goodIn_app (goodIn_of _ (by decide +kernel)) ggX6_fault_X6_refuse
set_option maxRecDepth 20000 in
theorem ggX6_fault_X6_read : GoodIn wsX6_fault wsX6_read := goodIn_r _ [19, 20, 21, 2, 22, 23, 24, 1, 25, 26, 27, 5, 28, 29, 30, 31, 32, 33, 34, 35, 36, 37, 7, 8, 9, 38, 39, 40, 41, 42, 43, 44, 45, 46, 47, 48, 49, 50, 51, 52, 53, 54, 55, 56, 57, 58, 59, 60, 61, 62, 63, 64, 65, 66, 67, 68, 69, 70, 71, 72, 73, 74, 75, 76, 77, 78, 79, 80, 81, 82, 83, 84, 85, 86, 87, 88, 89, 90] (by decide +kernel) (by decide +kernel)
set_option maxRecDepth 20000 in
theorem gX6_fault_X6_read : GoodIn wsX6_fault (wsV RX6 163 RX6 yX6_read wsX6_read) := goodIn_app (goodIn_of _ (by decide +kernel)) ggX6_fault_X6_read
theorem dX6_fault_0 : decode cX6_fault 0 = .ok (.iload_n 1, 1) := by decide +kernel
theorem dX6_fault_1 : decode cX6_fault 1 = .ok (.invokestatic 128, 3) := by decide +kernel
theorem dX6_fault_4 : decode cX6_fault 4 = .ok (.ifCond .ne 5, 3) := by decide +kernel
theorem dX6_fault_7 : decode cX6_fault 7 = .ok (.iconst (-1), 1) := by decide +kernel
theorem dX6_fault_8 : decode cX6_fault 8 = .ok (.ireturn, 1) := by decide +kernel
theorem dX6_fault_9 : decode cX6_fault 9 = .ok (.aload_n 0, 1) := by decide +kernel
theorem dX6_fault_10 : decode cX6_fault 10 = .ok (.getfield 23, 3) := by decide +kernel
theorem dX6_fault_13 : decode cX6_fault 13 = .ok (.iload_n 1, 1) := by decide +kernel
theorem dX6_fault_14 : decode cX6_fault 14 = .ok (.iaload, 1) := by decide +kernel
theorem dX6_fault_15 : decode cX6_fault 15 = .ok (.ifCond .ge 9, 3) := by decide +kernel
theorem dX6_fault_18 : decode cX6_fault 18 = .ok (.aload_n 0, 1) := by decide +kernel
theorem dX6_fault_19 : decode cX6_fault 19 = .ok (.iconst 1, 1) := by decide +kernel
theorem dX6_fault_20 : decode cX6_fault 20 = .ok (.invokevirtual 117, 3) := by decide +kernel
theorem dX6_fault_23 : decode cX6_fault 23 = .ok (.ireturn, 1) := by decide +kernel
theorem dX6_fault_24 : decode cX6_fault 24 = .ok (.aload_n 0, 1) := by decide +kernel
theorem dX6_fault_25 : decode cX6_fault 25 = .ok (.iload_n 1, 1) := by decide +kernel
theorem dX6_fault_26 : decode cX6_fault 26 = .ok (.invokevirtual 163, 3) := by decide +kernel
theorem dX6_fault_29 : decode cX6_fault 29 = .ok (.aload_n 0, 1) := by decide +kernel
theorem dX6_fault_30 : decode cX6_fault 30 = .ok (.getfield 141, 3) := by decide +kernel
theorem dX6_fault_33 : decode cX6_fault 33 = .ok (.ireturn, 1) := by decide +kernel
set_option maxRecDepth 20000 in
theorem ggX6_delta_X6_isText : GoodIn wsX6_delta wsX6_isText := goodIn_r _ [22, 23, 24, 21, 25] (by decide +kernel) (by decide +kernel)
set_option maxRecDepth 20000 in
theorem gX6_delta_X6_isText : GoodIn wsX6_delta (va_wsS RX6 128 yX6_isText wsX6_isText) := goodIn_app (goodIn_of _ (by decide +kernel)) ggX6_delta_X6_isText
set_option maxRecDepth 20000 in
theorem ggX6_delta_X6_refuse : GoodIn wsX6_delta wsX6_refuse := goodIn_r _ [29, 30, 31, 89, 90, 91, 92, 93, 94, 95, 96, 97, 98, 99, 100, 101, 102, 103, 104, 105, 106, 107, 108, 109, 110, 111, 112, 113, 114, 115, 116, 117, 118, 119, 120, 121, 122, 123, 124, 125, 126, 127, 128, 129, 130] (by decide +kernel) (by decide +kernel)
set_option maxRecDepth 20000 in
theorem gX6_delta_X6_refuse : GoodIn wsX6_delta (wsV RX6 117 RX6 yX6_refuse wsX6_refuse) := goodIn_app (goodIn_of _ (by decide +kernel)) ggX6_delta_X6_refuse
set_option maxRecDepth 20000 in
theorem ggX6_delta_X6_read : GoodIn wsX6_delta wsX6_read := goodIn_r _ [35, 36, 37, 2, 3, 14, 15, 1, 38, 39, 40, 21, 41, 42, 43, 44, 45, 46, 47, 48, 49, 50, 23, 24, 25, 51, 52, 53, 54, 6, 10, 8, 12, 55, 56, 57, 89, 90, 91, 92, 93, 94, 95, 96, 97, 98, 99, 100, 101, 102, 103, 104, 105, 106, 107, 108, 109, 110, 111, 112, 113, 114, 115, 116, 117, 118, 119, 120, 121, 122, 123, 124, 125, 126, 127, 128, 129, 130] (by decide +kernel) (by decide +kernel)
set_option maxRecDepth 20000 in
theorem gX6_delta_X6_read : GoodIn wsX6_delta (wsV RX6 163 RX6 yX6_read wsX6_read) := goodIn_app (goodIn_of _ (by decide +kernel)) ggX6_delta_X6_read
set_option maxRecDepth 20000 in
theorem ggX6_delta_X6_goThrough : GoodIn wsX6_delta wsX6_goThrough := goodIn_r _ [61, 62, 9, 63, 11, 64, 13, 16, 65, 66, 17, 67, 68, 69, 70, 21, 71, 4, 72, 5, 73, 74, 75, 76, 77, 78, 79, 7, 80, 81, 82, 83, 84, 85, 86, 87, 88, 89, 90, 91, 92, 93, 94, 95, 96, 97, 98, 99, 100, 101, 102, 103, 104, 105, 106, 107, 108, 109, 110, 111, 112, 113, 114, 115, 116, 117, 118, 119, 120, 121, 122, 123, 124, 125, 126, 127, 128, 129, 130] (by decide +kernel) (by decide +kernel)
set_option maxRecDepth 20000 in
theorem gX6_delta_X6_goThrough : GoodIn wsX6_delta (wsV RX6 176 RX6 yX6_goThrough wsX6_goThrough) := goodIn_app (goodIn_of _ (by decide +kernel)) ggX6_delta_X6_goThrough
theorem dX6_delta_0 : decode cX6_delta 0 = .ok (.iload_n 1, 1) := by decide +kernel
theorem dX6_delta_1 : decode cX6_delta 1 = .ok (.invokestatic 128, 3) := by decide +kernel
theorem dX6_delta_4 : decode cX6_delta 4 = .ok (.ifCond .ne 5, 3) := by decide +kernel
theorem dX6_delta_7 : decode cX6_delta 7 = .ok (.iconst (-1), 1) := by decide +kernel
theorem dX6_delta_8 : decode cX6_delta 8 = .ok (.ireturn, 1) := by decide +kernel
theorem dX6_delta_9 : decode cX6_delta 9 = .ok (.aload_n 0, 1) := by decide +kernel
theorem dX6_delta_10 : decode cX6_delta 10 = .ok (.getfield 23, 3) := by decide +kernel
theorem dX6_delta_13 : decode cX6_delta 13 = .ok (.iload_n 1, 1) := by decide +kernel
theorem dX6_delta_14 : decode cX6_delta 14 = .ok (.iaload, 1) := by decide +kernel
theorem dX6_delta_15 : decode cX6_delta 15 = .ok (.ifCond .ge 9, 3) := by decide +kernel
theorem dX6_delta_18 : decode cX6_delta 18 = .ok (.aload_n 0, 1) := by decide +kernel
theorem dX6_delta_19 : decode cX6_delta 19 = .ok (.iconst 1, 1) := by decide +kernel
theorem dX6_delta_20 : decode cX6_delta 20 = .ok (.invokevirtual 117, 3) := by decide +kernel
theorem dX6_delta_23 : decode cX6_delta 23 = .ok (.ireturn, 1) := by decide +kernel
theorem dX6_delta_24 : decode cX6_delta 24 = .ok (.aload_n 0, 1) := by decide +kernel
theorem dX6_delta_25 : decode cX6_delta 25 = .ok (.iload_n 1, 1) := by decide +kernel
theorem dX6_delta_26 : decode cX6_delta 26 = .ok (.invokevirtual 163, 3) := by decide +kernel
theorem dX6_delta_29 : decode cX6_delta 29 = .ok (.aload_n 0, 1) := by decide +kernel
theorem dX6_delta_30 : decode cX6_delta 30 = .ok (.getfield 141, 3) := by decide +kernel
theorem dX6_delta_33 : decode cX6_delta 33 = .ok (.bipush (-9), 2) := by decide +kernel
theorem dX6_delta_35 : decode cX6_delta 35 = .ok (.if_icmp .eq 6, 3) := by decide +kernel
theorem dX6_delta_38 : decode cX6_delta 38 = .ok (.bipush (-4), 2) := by decide +kernel
theorem dX6_delta_40 : decode cX6_delta 40 = .ok (.ireturn, 1) := by decide +kernel
theorem dX6_delta_41 : decode cX6_delta 41 = .ok (.aload_n 0, 1) := by decide +kernel
theorem dX6_delta_42 : decode cX6_delta 42 = .ok (.aload_n 0, 1) := by decide +kernel
theorem dX6_delta_43 : decode cX6_delta 43 = .ok (.getfield 147, 3) := by decide +kernel
theorem dX6_delta_46 : decode cX6_delta 46 = .ok (.putfield 167, 3) := by decide +kernel
theorem dX6_delta_49 : decode cX6_delta 49 = .ok (.iconst 0, 1) := by decide +kernel
theorem dX6_delta_50 : decode cX6_delta 50 = .ok (.istore_n 2, 1) := by decide +kernel
theorem dX6_delta_51 : decode cX6_delta 51 = .ok (.iload_n 2, 1) := by decide +kernel
theorem dX6_delta_52 : decode cX6_delta 52 = .ok (.bipush 6, 2) := by decide +kernel
theorem dX6_delta_54 : decode cX6_delta 54 = .ok (.if_icmp .ge 69, 3) := by decide +kernel
theorem dX6_delta_57 : decode cX6_delta 57 = .ok (.aload_n 0, 1) := by decide +kernel
theorem dX6_delta_58 : decode cX6_delta 58 = .ok (.getfield 44, 3) := by decide +kernel
theorem dX6_delta_61 : decode cX6_delta 61 = .ok (.iload_n 2, 1) := by decide +kernel
theorem dX6_delta_62 : decode cX6_delta 62 = .ok (.aload_n 0, 1) := by decide +kernel
theorem dX6_delta_63 : decode cX6_delta 63 = .ok (.getfield 32, 3) := by decide +kernel
theorem dX6_delta_66 : decode cX6_delta 66 = .ok (.iload_n 2, 1) := by decide +kernel
theorem dX6_delta_67 : decode cX6_delta 67 = .ok (.iaload, 1) := by decide +kernel
theorem dX6_delta_68 : decode cX6_delta 68 = .ok (.iastore, 1) := by decide +kernel
theorem dX6_delta_69 : decode cX6_delta 69 = .ok (.aload_n 0, 1) := by decide +kernel
theorem dX6_delta_70 : decode cX6_delta 70 = .ok (.getfield 47, 3) := by decide +kernel
theorem dX6_delta_73 : decode cX6_delta 73 = .ok (.iload_n 2, 1) := by decide +kernel
theorem dX6_delta_74 : decode cX6_delta 74 = .ok (.aload_n 0, 1) := by decide +kernel
theorem dX6_delta_75 : decode cX6_delta 75 = .ok (.getfield 38, 3) := by decide +kernel
theorem dX6_delta_78 : decode cX6_delta 78 = .ok (.iload_n 2, 1) := by decide +kernel
theorem dX6_delta_79 : decode cX6_delta 79 = .ok (.iaload, 1) := by decide +kernel
theorem dX6_delta_80 : decode cX6_delta 80 = .ok (.iastore, 1) := by decide +kernel
theorem dX6_delta_81 : decode cX6_delta 81 = .ok (.aload_n 0, 1) := by decide +kernel
theorem dX6_delta_82 : decode cX6_delta 82 = .ok (.getfield 50, 3) := by decide +kernel
theorem dX6_delta_85 : decode cX6_delta 85 = .ok (.iload_n 2, 1) := by decide +kernel
theorem dX6_delta_86 : decode cX6_delta 86 = .ok (.aload_n 0, 1) := by decide +kernel
theorem dX6_delta_87 : decode cX6_delta 87 = .ok (.getfield 35, 3) := by decide +kernel
theorem dX6_delta_90 : decode cX6_delta 90 = .ok (.iload_n 2, 1) := by decide +kernel
theorem dX6_delta_91 : decode cX6_delta 91 = .ok (.iaload, 1) := by decide +kernel
theorem dX6_delta_92 : decode cX6_delta 92 = .ok (.iastore, 1) := by decide +kernel
theorem dX6_delta_93 : decode cX6_delta 93 = .ok (.aload_n 0, 1) := by decide +kernel
theorem dX6_delta_94 : decode cX6_delta 94 = .ok (.getfield 53, 3) := by decide +kernel
theorem dX6_delta_97 : decode cX6_delta 97 = .ok (.iload_n 2, 1) := by decide +kernel
theorem dX6_delta_98 : decode cX6_delta 98 = .ok (.aload_n 0, 1) := by decide +kernel
theorem dX6_delta_99 : decode cX6_delta 99 = .ok (.getfield 41, 3) := by decide +kernel
theorem dX6_delta_102 : decode cX6_delta 102 = .ok (.iload_n 2, 1) := by decide +kernel
theorem dX6_delta_103 : decode cX6_delta 103 = .ok (.iaload, 1) := by decide +kernel
theorem dX6_delta_104 : decode cX6_delta 104 = .ok (.iastore, 1) := by decide +kernel
theorem dX6_delta_105 : decode cX6_delta 105 = .ok (.aload_n 0, 1) := by decide +kernel
theorem dX6_delta_106 : decode cX6_delta 106 = .ok (.getfield 56, 3) := by decide +kernel
theorem dX6_delta_109 : decode cX6_delta 109 = .ok (.iload_n 2, 1) := by decide +kernel
theorem dX6_delta_110 : decode cX6_delta 110 = .ok (.aload_n 0, 1) := by decide +kernel
theorem dX6_delta_111 : decode cX6_delta 111 = .ok (.getfield 29, 3) := by decide +kernel
theorem dX6_delta_114 : decode cX6_delta 114 = .ok (.iload_n 2, 1) := by decide +kernel
theorem dX6_delta_115 : decode cX6_delta 115 = .ok (.iaload, 1) := by decide +kernel
theorem dX6_delta_116 : decode cX6_delta 116 = .ok (.iastore, 1) := by decide +kernel
theorem dX6_delta_117 : decode cX6_delta 117 = .ok (.iinc 2 1, 3) := by decide +kernel
theorem dX6_delta_120 : decode cX6_delta 120 = .ok (.goto (-69), 3) := by decide +kernel
theorem dX6_delta_123 : decode cX6_delta 123 = .ok (.aload_n 0, 1) := by decide +kernel
theorem dX6_delta_124 : decode cX6_delta 124 = .ok (.aload_n 0, 1) := by decide +kernel
theorem dX6_delta_125 : decode cX6_delta 125 = .ok (.getfield 157, 3) := by decide +kernel
theorem dX6_delta_128 : decode cX6_delta 128 = .ok (.putfield 170, 3) := by decide +kernel
theorem dX6_delta_131 : decode cX6_delta 131 = .ok (.aload_n 0, 1) := by decide +kernel
theorem dX6_delta_132 : decode cX6_delta 132 = .ok (.iconst 0, 1) := by decide +kernel
theorem dX6_delta_133 : decode cX6_delta 133 = .ok (.putfield 173, 3) := by decide +kernel
theorem dX6_delta_136 : decode cX6_delta 136 = .ok (.aload_n 0, 1) := by decide +kernel
theorem dX6_delta_137 : decode cX6_delta 137 = .ok (.invokevirtual 176, 3) := by decide +kernel
theorem dX6_delta_140 : decode cX6_delta 140 = .ok (.iconst 0, 1) := by decide +kernel
theorem dX6_delta_141 : decode cX6_delta 141 = .ok (.istore_n 2, 1) := by decide +kernel
theorem dX6_delta_142 : decode cX6_delta 142 = .ok (.iload_n 2, 1) := by decide +kernel
theorem dX6_delta_143 : decode cX6_delta 143 = .ok (.iconst 3, 1) := by decide +kernel
theorem dX6_delta_144 : decode cX6_delta 144 = .ok (.if_icmp .ge 16, 3) := by decide +kernel
theorem dX6_delta_147 : decode cX6_delta 147 = .ok (.aload_n 0, 1) := by decide +kernel
theorem dX6_delta_148 : decode cX6_delta 148 = .ok (.getfield 83, 3) := by decide +kernel
theorem dX6_delta_151 : decode cX6_delta 151 = .ok (.iload_n 2, 1) := by decide +kernel
theorem dX6_delta_152 : decode cX6_delta 152 = .ok (.iconst (-1), 1) := by decide +kernel
theorem dX6_delta_153 : decode cX6_delta 153 = .ok (.iastore, 1) := by decide +kernel
theorem dX6_delta_154 : decode cX6_delta 154 = .ok (.iinc 2 1, 3) := by decide +kernel
theorem dX6_delta_157 : decode cX6_delta 157 = .ok (.goto (-15), 3) := by decide +kernel
theorem dX6_delta_160 : decode cX6_delta 160 = .ok (.aload_n 0, 1) := by decide +kernel
theorem dX6_delta_161 : decode cX6_delta 161 = .ok (.getfield 167, 3) := by decide +kernel
theorem dX6_delta_164 : decode cX6_delta 164 = .ok (.ireturn, 1) := by decide +kernel
set_option maxRecDepth 20000 in
theorem ggX6_isWoman_X6_in : GoodIn wsX6_isWoman wsX6_in := goodIn_r _ [5] (by decide +kernel) (by decide +kernel)
set_option maxRecDepth 20000 in
theorem gX6_isWoman_X6_in : GoodIn wsX6_isWoman (va_wsS RX6 109 yX6_in wsX6_in) := goodIn_app (goodIn_of _ (by decide +kernel)) ggX6_isWoman_X6_in
theorem dX6_isWoman_0 : decode cX6_isWoman 0 = .ok (.iload_n 1, 1) := by decide +kernel
theorem dX6_isWoman_1 : decode cX6_isWoman 1 = .ok (.iconst 0, 1) := by decide +kernel
theorem dX6_isWoman_2 : decode cX6_isWoman 2 = .ok (.aload_n 0, 1) := by decide +kernel
theorem dX6_isWoman_3 : decode cX6_isWoman 3 = .ok (.getfield 167, 3) := by decide +kernel
theorem dX6_isWoman_6 : decode cX6_isWoman 6 = .ok (.iconst 1, 1) := by decide +kernel
theorem dX6_isWoman_7 : decode cX6_isWoman 7 = .ok (.isub, 1) := by decide +kernel
theorem dX6_isWoman_8 : decode cX6_isWoman 8 = .ok (.invokestatic 109, 3) := by decide +kernel
theorem dX6_isWoman_11 : decode cX6_isWoman 11 = .ok (.ireturn, 1) := by decide +kernel
set_option maxRecDepth 20000 in
theorem ggX6_isHeight_X6_in : GoodIn wsX6_isHeight wsX6_in := goodIn_r _ [4] (by decide +kernel) (by decide +kernel)
set_option maxRecDepth 20000 in
theorem gX6_isHeight_X6_in : GoodIn wsX6_isHeight (va_wsS RX6 109 yX6_in wsX6_in) := goodIn_app (goodIn_of _ (by decide +kernel)) ggX6_isHeight_X6_in
theorem dX6_isHeight_0 : decode cX6_isHeight 0 = .ok (.iload_n 0, 1) := by decide +kernel
theorem dX6_isHeight_1 : decode cX6_isHeight 1 = .ok (.iconst 0, 1) := by decide +kernel
theorem dX6_isHeight_2 : decode cX6_isHeight 2 = .ok (.bipush 20, 2) := by decide +kernel
theorem dX6_isHeight_4 : decode cX6_isHeight 4 = .ok (.invokestatic 109, 3) := by decide +kernel
theorem dX6_isHeight_7 : decode cX6_isHeight 7 = .ok (.ireturn, 1) := by decide +kernel
set_option maxRecDepth 20000 in
theorem ggX6_isPlace_X6_in : GoodIn wsX6_isPlace wsX6_in := goodIn_r _ [4] (by decide +kernel) (by decide +kernel)
set_option maxRecDepth 20000 in
theorem gX6_isPlace_X6_in : GoodIn wsX6_isPlace (va_wsS RX6 109 yX6_in wsX6_in) := goodIn_app (goodIn_of _ (by decide +kernel)) ggX6_isPlace_X6_in
theorem dX6_isPlace_0 : decode cX6_isPlace 0 = .ok (.iload_n 0, 1) := by decide +kernel
theorem dX6_isPlace_1 : decode cX6_isPlace 1 = .ok (.iconst 0, 1) := by decide +kernel
theorem dX6_isPlace_2 : decode cX6_isPlace 2 = .ok (.iconst 5, 1) := by decide +kernel
theorem dX6_isPlace_3 : decode cX6_isPlace 3 = .ok (.invokestatic 109, 3) := by decide +kernel
theorem dX6_isPlace_6 : decode cX6_isPlace 6 = .ok (.ireturn, 1) := by decide +kernel
theorem dX6_wet_0 : decode cX6_wet 0 = .ok (.iload_n 0, 1) := by decide +kernel
theorem dX6_wet_1 : decode cX6_wet 1 = .ok (.iload_n 1, 1) := by decide +kernel
theorem dX6_wet_2 : decode cX6_wet 2 = .ok (.if_icmp .le 9, 3) := by decide +kernel
theorem dX6_wet_5 : decode cX6_wet 5 = .ok (.iload_n 0, 1) := by decide +kernel
theorem dX6_wet_6 : decode cX6_wet 6 = .ok (.iload_n 1, 1) := by decide +kernel
theorem dX6_wet_7 : decode cX6_wet 7 = .ok (.isub, 1) := by decide +kernel
theorem dX6_wet_8 : decode cX6_wet 8 = .ok (.goto 4, 3) := by decide +kernel
theorem dX6_wet_11 : decode cX6_wet 11 = .ok (.iconst 0, 1) := by decide +kernel
theorem dX6_wet_12 : decode cX6_wet 12 = .ok (.ireturn, 1) := by decide +kernel
theorem dX6_less_0 : decode cX6_less 0 = .ok (.iload_n 0, 1) := by decide +kernel
theorem dX6_less_1 : decode cX6_less 1 = .ok (.iload_n 1, 1) := by decide +kernel
theorem dX6_less_2 : decode cX6_less 2 = .ok (.if_icmp .ge 7, 3) := by decide +kernel
theorem dX6_less_5 : decode cX6_less 5 = .ok (.iload_n 0, 1) := by decide +kernel
theorem dX6_less_6 : decode cX6_less 6 = .ok (.goto 4, 3) := by decide +kernel
theorem dX6_less_9 : decode cX6_less 9 = .ok (.iload_n 1, 1) := by decide +kernel
theorem dX6_less_10 : decode cX6_less 10 = .ok (.ireturn, 1) := by decide +kernel
set_option maxRecDepth 20000 in
theorem ggX6_hemBy_X6_less : GoodIn wsX6_hemBy wsX6_less := goodIn_r _ [4] (by decide +kernel) (by decide +kernel)
set_option maxRecDepth 20000 in
theorem gX6_hemBy_X6_less : GoodIn wsX6_hemBy (va_wsS RX6 179 yX6_less wsX6_less) := goodIn_app (goodIn_of _ (by decide +kernel)) ggX6_hemBy_X6_less
theorem dX6_hemBy_0 : decode cX6_hemBy 0 = .ok (.iload_n 3, 1) := by decide +kernel
theorem dX6_hemBy_1 : decode cX6_hemBy 1 = .ok (.iload_n 1, 1) := by decide +kernel
theorem dX6_hemBy_2 : decode cX6_hemBy 2 = .ok (.invokestatic 179, 3) := by decide +kernel
theorem dX6_hemBy_5 : decode cX6_hemBy 5 = .ok (.istore 5, 2) := by decide +kernel
theorem dX6_hemBy_7 : decode cX6_hemBy 7 = .ok (.iload 5, 2) := by decide +kernel
theorem dX6_hemBy_9 : decode cX6_hemBy 9 = .ok (.iconst 2, 1) := by decide +kernel
theorem dX6_hemBy_10 : decode cX6_hemBy 10 = .ok (.if_icmp .ge 7, 3) := by decide +kernel
theorem dX6_hemBy_13 : decode cX6_hemBy 13 = .ok (.iconst 2, 1) := by decide +kernel
theorem dX6_hemBy_14 : decode cX6_hemBy 14 = .ok (.goto 5, 3) := by decide +kernel
theorem dX6_hemBy_17 : decode cX6_hemBy 17 = .ok (.iload 5, 2) := by decide +kernel
theorem dX6_hemBy_19 : decode cX6_hemBy 19 = .ok (.istore 6, 2) := by decide +kernel
theorem dX6_hemBy_21 : decode cX6_hemBy 21 = .ok (.iload 5, 2) := by decide +kernel
theorem dX6_hemBy_23 : decode cX6_hemBy 23 = .ok (.iload_n 2, 1) := by decide +kernel
theorem dX6_hemBy_24 : decode cX6_hemBy 24 = .ok (.if_icmp .ge 7, 3) := by decide +kernel
theorem dX6_hemBy_27 : decode cX6_hemBy 27 = .ok (.iconst 0, 1) := by decide +kernel
theorem dX6_hemBy_28 : decode cX6_hemBy 28 = .ok (.goto 7, 3) := by decide +kernel
theorem dX6_hemBy_31 : decode cX6_hemBy 31 = .ok (.iload 5, 2) := by decide +kernel
theorem dX6_hemBy_33 : decode cX6_hemBy 33 = .ok (.iload_n 2, 1) := by decide +kernel
theorem dX6_hemBy_34 : decode cX6_hemBy 34 = .ok (.isub, 1) := by decide +kernel
theorem dX6_hemBy_35 : decode cX6_hemBy 35 = .ok (.istore 7, 2) := by decide +kernel
theorem dX6_hemBy_37 : decode cX6_hemBy 37 = .ok (.iload_n 0, 1) := by decide +kernel
theorem dX6_hemBy_38 : decode cX6_hemBy 38 = .ok (.tableswitch 69 1 5 #[34, 37, 40, 49, 54], 34) := by decide +kernel
theorem dX6_hemBy_72 : decode cX6_hemBy 72 = .ok (.iload 6, 2) := by decide +kernel
theorem dX6_hemBy_74 : decode cX6_hemBy 74 = .ok (.ireturn, 1) := by decide +kernel
theorem dX6_hemBy_75 : decode cX6_hemBy 75 = .ok (.iload 7, 2) := by decide +kernel
theorem dX6_hemBy_77 : decode cX6_hemBy 77 = .ok (.ireturn, 1) := by decide +kernel
theorem dX6_hemBy_78 : decode cX6_hemBy 78 = .ok (.iload 5, 2) := by decide +kernel
theorem dX6_hemBy_80 : decode cX6_hemBy 80 = .ok (.iload_n 1, 1) := by decide +kernel
theorem dX6_hemBy_81 : decode cX6_hemBy 81 = .ok (.iconst 2, 1) := by decide +kernel
theorem dX6_hemBy_82 : decode cX6_hemBy 82 = .ok (.idiv, 1) := by decide +kernel
theorem dX6_hemBy_83 : decode cX6_hemBy 83 = .ok (.invokestatic 179, 3) := by decide +kernel
theorem dX6_hemBy_86 : decode cX6_hemBy 86 = .ok (.ireturn, 1) := by decide +kernel
theorem dX6_hemBy_87 : decode cX6_hemBy 87 = .ok (.iload 6, 2) := by decide +kernel
theorem dX6_hemBy_89 : decode cX6_hemBy 89 = .ok (.iconst 1, 1) := by decide +kernel
theorem dX6_hemBy_90 : decode cX6_hemBy 90 = .ok (.iadd, 1) := by decide +kernel
theorem dX6_hemBy_91 : decode cX6_hemBy 91 = .ok (.ireturn, 1) := by decide +kernel
theorem dX6_hemBy_92 : decode cX6_hemBy 92 = .ok (.iload 4, 2) := by decide +kernel
theorem dX6_hemBy_94 : decode cX6_hemBy 94 = .ok (.iconst 2, 1) := by decide +kernel
theorem dX6_hemBy_95 : decode cX6_hemBy 95 = .ok (.irem, 1) := by decide +kernel
theorem dX6_hemBy_96 : decode cX6_hemBy 96 = .ok (.ifCond .ne 8, 3) := by decide +kernel
theorem dX6_hemBy_99 : decode cX6_hemBy 99 = .ok (.iload 5, 2) := by decide +kernel
theorem dX6_hemBy_101 : decode cX6_hemBy 101 = .ok (.goto 5, 3) := by decide +kernel
theorem dX6_hemBy_104 : decode cX6_hemBy 104 = .ok (.iload 7, 2) := by decide +kernel
theorem dX6_hemBy_106 : decode cX6_hemBy 106 = .ok (.ireturn, 1) := by decide +kernel
theorem dX6_hemBy_107 : decode cX6_hemBy 107 = .ok (.iload 5, 2) := by decide +kernel
theorem dX6_hemBy_109 : decode cX6_hemBy 109 = .ok (.ireturn, 1) := by decide +kernel
set_option maxRecDepth 20000 in
theorem ggX6_hemNow_X6_wet : GoodIn wsX6_hemNow wsX6_wet := goodIn_r _ [9] (by decide +kernel) (by decide +kernel)
set_option maxRecDepth 20000 in
theorem gX6_hemNow_X6_wet : GoodIn wsX6_hemNow (va_wsS RX6 182 yX6_wet wsX6_wet) := goodIn_app (goodIn_of _ (by decide +kernel)) ggX6_hemNow_X6_wet
set_option maxRecDepth 20000 in
theorem ggX6_hemNow_X6_hemBy : GoodIn wsX6_hemNow wsX6_hemBy := goodIn_r _ [12, 13, 14, 8, 15] (by decide +kernel) (by decide +kernel)
set_option maxRecDepth 20000 in
theorem gX6_hemNow_X6_hemBy : GoodIn wsX6_hemNow (va_wsS RX6 188 yX6_hemBy wsX6_hemBy) := goodIn_app (goodIn_of _ (by decide +kernel)) ggX6_hemNow_X6_hemBy
theorem dX6_hemNow_0 : decode cX6_hemNow 0 = .ok (.iload_n 1, 1) := by decide +kernel
theorem dX6_hemNow_1 : decode cX6_hemNow 1 = .ok (.aload_n 0, 1) := by decide +kernel
theorem dX6_hemNow_2 : decode cX6_hemNow 2 = .ok (.getfield 47, 3) := by decide +kernel
theorem dX6_hemNow_5 : decode cX6_hemNow 5 = .ok (.iload_n 2, 1) := by decide +kernel
theorem dX6_hemNow_6 : decode cX6_hemNow 6 = .ok (.iaload, 1) := by decide +kernel
theorem dX6_hemNow_7 : decode cX6_hemNow 7 = .ok (.aload_n 0, 1) := by decide +kernel
theorem dX6_hemNow_8 : decode cX6_hemNow 8 = .ok (.getfield 62, 3) := by decide +kernel
theorem dX6_hemNow_11 : decode cX6_hemNow 11 = .ok (.iload_n 2, 1) := by decide +kernel
theorem dX6_hemNow_12 : decode cX6_hemNow 12 = .ok (.iaload, 1) := by decide +kernel
theorem dX6_hemNow_13 : decode cX6_hemNow 13 = .ok (.iload_n 3, 1) := by decide +kernel
theorem dX6_hemNow_14 : decode cX6_hemNow 14 = .ok (.aload_n 0, 1) := by decide +kernel
theorem dX6_hemNow_15 : decode cX6_hemNow 15 = .ok (.getfield 65, 3) := by decide +kernel
theorem dX6_hemNow_18 : decode cX6_hemNow 18 = .ok (.aload_n 0, 1) := by decide +kernel
theorem dX6_hemNow_19 : decode cX6_hemNow 19 = .ok (.getfield 59, 3) := by decide +kernel
theorem dX6_hemNow_22 : decode cX6_hemNow 22 = .ok (.iload_n 2, 1) := by decide +kernel
theorem dX6_hemNow_23 : decode cX6_hemNow 23 = .ok (.iaload, 1) := by decide +kernel
theorem dX6_hemNow_24 : decode cX6_hemNow 24 = .ok (.iaload, 1) := by decide +kernel
theorem dX6_hemNow_25 : decode cX6_hemNow 25 = .ok (.invokestatic 182, 3) := by decide +kernel
theorem dX6_hemNow_28 : decode cX6_hemNow 28 = .ok (.aload_n 0, 1) := by decide +kernel
theorem dX6_hemNow_29 : decode cX6_hemNow 29 = .ok (.getfield 185, 3) := by decide +kernel
theorem dX6_hemNow_32 : decode cX6_hemNow 32 = .ok (.invokestatic 188, 3) := by decide +kernel
theorem dX6_hemNow_35 : decode cX6_hemNow 35 = .ok (.ireturn, 1) := by decide +kernel
set_option maxRecDepth 20000 in
theorem ggX6_hemThen_X6_wet : GoodIn wsX6_hemThen wsX6_wet := goodIn_r _ [7] (by decide +kernel) (by decide +kernel)
set_option maxRecDepth 20000 in
theorem gX6_hemThen_X6_wet : GoodIn wsX6_hemThen (va_wsS RX6 182 yX6_wet wsX6_wet) := goodIn_app (goodIn_of _ (by decide +kernel)) ggX6_hemThen_X6_wet
set_option maxRecDepth 20000 in
theorem ggX6_hemThen_X6_hemBy : GoodIn wsX6_hemThen wsX6_hemBy := goodIn_r _ [10, 11, 12, 6, 13] (by decide +kernel) (by decide +kernel)
set_option maxRecDepth 20000 in
theorem gX6_hemThen_X6_hemBy : GoodIn wsX6_hemThen (va_wsS RX6 188 yX6_hemBy wsX6_hemBy) := goodIn_app (goodIn_of _ (by decide +kernel)) ggX6_hemThen_X6_hemBy
theorem dX6_hemThen_0 : decode cX6_hemThen 0 = .ok (.bipush 6, 2) := by decide +kernel
theorem dX6_hemThen_2 : decode cX6_hemThen 2 = .ok (.iload_n 3, 1) := by decide +kernel
theorem dX6_hemThen_3 : decode cX6_hemThen 3 = .ok (.imul, 1) := by decide +kernel
theorem dX6_hemThen_4 : decode cX6_hemThen 4 = .ok (.iload_n 2, 1) := by decide +kernel
theorem dX6_hemThen_5 : decode cX6_hemThen 5 = .ok (.iadd, 1) := by decide +kernel
theorem dX6_hemThen_6 : decode cX6_hemThen 6 = .ok (.istore 5, 2) := by decide +kernel
theorem dX6_hemThen_8 : decode cX6_hemThen 8 = .ok (.iload_n 1, 1) := by decide +kernel
theorem dX6_hemThen_9 : decode cX6_hemThen 9 = .ok (.aload_n 0, 1) := by decide +kernel
theorem dX6_hemThen_10 : decode cX6_hemThen 10 = .ok (.getfield 47, 3) := by decide +kernel
theorem dX6_hemThen_13 : decode cX6_hemThen 13 = .ok (.iload_n 2, 1) := by decide +kernel
theorem dX6_hemThen_14 : decode cX6_hemThen 14 = .ok (.iaload, 1) := by decide +kernel
theorem dX6_hemThen_15 : decode cX6_hemThen 15 = .ok (.aload_n 0, 1) := by decide +kernel
theorem dX6_hemThen_16 : decode cX6_hemThen 16 = .ok (.getfield 77, 3) := by decide +kernel
theorem dX6_hemThen_19 : decode cX6_hemThen 19 = .ok (.iload 5, 2) := by decide +kernel
theorem dX6_hemThen_21 : decode cX6_hemThen 21 = .ok (.iaload, 1) := by decide +kernel
theorem dX6_hemThen_22 : decode cX6_hemThen 22 = .ok (.iload 4, 2) := by decide +kernel
theorem dX6_hemThen_24 : decode cX6_hemThen 24 = .ok (.aload_n 0, 1) := by decide +kernel
theorem dX6_hemThen_25 : decode cX6_hemThen 25 = .ok (.getfield 74, 3) := by decide +kernel
theorem dX6_hemThen_28 : decode cX6_hemThen 28 = .ok (.iload 5, 2) := by decide +kernel
theorem dX6_hemThen_30 : decode cX6_hemThen 30 = .ok (.iaload, 1) := by decide +kernel
theorem dX6_hemThen_31 : decode cX6_hemThen 31 = .ok (.invokestatic 182, 3) := by decide +kernel
theorem dX6_hemThen_34 : decode cX6_hemThen 34 = .ok (.iload_n 3, 1) := by decide +kernel
theorem dX6_hemThen_35 : decode cX6_hemThen 35 = .ok (.invokestatic 188, 3) := by decide +kernel
theorem dX6_hemThen_38 : decode cX6_hemThen 38 = .ok (.ireturn, 1) := by decide +kernel
set_option maxRecDepth 20000 in
theorem ggX6_happen_X6_hemNow : GoodIn wsX6_happen wsX6_hemNow := goodIn_r _ [16, 17, 9, 6, 7, 2, 18, 19, 15, 20, 21, 22, 23, 24, 25, 26, 27, 28, 29, 30, 31, 32, 33, 34, 35, 36, 37, 38, 39, 40, 41, 42, 43, 44, 45, 46, 47, 48, 49, 50, 51, 52, 53, 54, 55, 56, 57, 58, 59, 60, 61, 62, 63, 64, 65, 66, 67, 68] (by decide +kernel) (by decide +kernel)
set_option maxRecDepth 20000 in
theorem gX6_happen_X6_hemNow : GoodIn wsX6_happen (wsV RX6 192 RX6 yX6_hemNow wsX6_hemNow) := goodIn_app (goodIn_of _ (by decide +kernel)) ggX6_happen_X6_hemNow
theorem dX6_happen_0 : decode cX6_happen 0 = .ok (.iload_n 1, 1) := by decide +kernel
theorem dX6_happen_1 : decode cX6_happen 1 = .ok (.tableswitch 167 0 2 #[27, 134, 144], 27) := by decide +kernel
theorem dX6_happen_28 : decode cX6_happen 28 = .ok (.iconst 0, 1) := by decide +kernel
theorem dX6_happen_29 : decode cX6_happen 29 = .ok (.istore 4, 2) := by decide +kernel
theorem dX6_happen_31 : decode cX6_happen 31 = .ok (.iload 4, 2) := by decide +kernel
theorem dX6_happen_33 : decode cX6_happen 33 = .ok (.aload_n 0, 1) := by decide +kernel
theorem dX6_happen_34 : decode cX6_happen 34 = .ok (.getfield 167, 3) := by decide +kernel
theorem dX6_happen_37 : decode cX6_happen 37 = .ok (.if_icmp .ge 75, 3) := by decide +kernel
theorem dX6_happen_40 : decode cX6_happen 40 = .ok (.bipush 6, 2) := by decide +kernel
theorem dX6_happen_42 : decode cX6_happen 42 = .ok (.aload_n 0, 1) := by decide +kernel
theorem dX6_happen_43 : decode cX6_happen 43 = .ok (.getfield 185, 3) := by decide +kernel
theorem dX6_happen_46 : decode cX6_happen 46 = .ok (.imul, 1) := by decide +kernel
theorem dX6_happen_47 : decode cX6_happen 47 = .ok (.iload 4, 2) := by decide +kernel
theorem dX6_happen_49 : decode cX6_happen 49 = .ok (.iadd, 1) := by decide +kernel
theorem dX6_happen_50 : decode cX6_happen 50 = .ok (.istore 5, 2) := by decide +kernel
theorem dX6_happen_52 : decode cX6_happen 52 = .ok (.aload_n 0, 1) := by decide +kernel
theorem dX6_happen_53 : decode cX6_happen 53 = .ok (.getfield 71, 3) := by decide +kernel
theorem dX6_happen_56 : decode cX6_happen 56 = .ok (.iload 5, 2) := by decide +kernel
theorem dX6_happen_58 : decode cX6_happen 58 = .ok (.aload_n 0, 1) := by decide +kernel
theorem dX6_happen_59 : decode cX6_happen 59 = .ok (.aload_n 0, 1) := by decide +kernel
theorem dX6_happen_60 : decode cX6_happen 60 = .ok (.getfield 44, 3) := by decide +kernel
theorem dX6_happen_63 : decode cX6_happen 63 = .ok (.iload 4, 2) := by decide +kernel
theorem dX6_happen_65 : decode cX6_happen 65 = .ok (.iaload, 1) := by decide +kernel
theorem dX6_happen_66 : decode cX6_happen 66 = .ok (.iload 4, 2) := by decide +kernel
theorem dX6_happen_68 : decode cX6_happen 68 = .ok (.iload_n 2, 1) := by decide +kernel
theorem dX6_happen_69 : decode cX6_happen 69 = .ok (.invokevirtual 192, 3) := by decide +kernel
theorem dX6_happen_72 : decode cX6_happen 72 = .ok (.iastore, 1) := by decide +kernel
theorem dX6_happen_73 : decode cX6_happen 73 = .ok (.aload_n 0, 1) := by decide +kernel
theorem dX6_happen_74 : decode cX6_happen 74 = .ok (.getfield 74, 3) := by decide +kernel
theorem dX6_happen_77 : decode cX6_happen 77 = .ok (.iload 5, 2) := by decide +kernel
theorem dX6_happen_79 : decode cX6_happen 79 = .ok (.aload_n 0, 1) := by decide +kernel
theorem dX6_happen_80 : decode cX6_happen 80 = .ok (.getfield 65, 3) := by decide +kernel
theorem dX6_happen_83 : decode cX6_happen 83 = .ok (.aload_n 0, 1) := by decide +kernel
theorem dX6_happen_84 : decode cX6_happen 84 = .ok (.getfield 59, 3) := by decide +kernel
theorem dX6_happen_87 : decode cX6_happen 87 = .ok (.iload 4, 2) := by decide +kernel
theorem dX6_happen_89 : decode cX6_happen 89 = .ok (.iaload, 1) := by decide +kernel
theorem dX6_happen_90 : decode cX6_happen 90 = .ok (.iaload, 1) := by decide +kernel
theorem dX6_happen_91 : decode cX6_happen 91 = .ok (.iastore, 1) := by decide +kernel
theorem dX6_happen_92 : decode cX6_happen 92 = .ok (.aload_n 0, 1) := by decide +kernel
theorem dX6_happen_93 : decode cX6_happen 93 = .ok (.getfield 77, 3) := by decide +kernel
theorem dX6_happen_96 : decode cX6_happen 96 = .ok (.iload 5, 2) := by decide +kernel
theorem dX6_happen_98 : decode cX6_happen 98 = .ok (.aload_n 0, 1) := by decide +kernel
theorem dX6_happen_99 : decode cX6_happen 99 = .ok (.getfield 62, 3) := by decide +kernel
theorem dX6_happen_102 : decode cX6_happen 102 = .ok (.iload 4, 2) := by decide +kernel
theorem dX6_happen_104 : decode cX6_happen 104 = .ok (.iaload, 1) := by decide +kernel
theorem dX6_happen_105 : decode cX6_happen 105 = .ok (.iastore, 1) := by decide +kernel
theorem dX6_happen_106 : decode cX6_happen 106 = .ok (.iinc 4 1, 3) := by decide +kernel
theorem dX6_happen_109 : decode cX6_happen 109 = .ok (.goto (-78), 3) := by decide +kernel
theorem dX6_happen_112 : decode cX6_happen 112 = .ok (.aload_n 0, 1) := by decide +kernel
theorem dX6_happen_113 : decode cX6_happen 113 = .ok (.getfield 68, 3) := by decide +kernel
theorem dX6_happen_116 : decode cX6_happen 116 = .ok (.aload_n 0, 1) := by decide +kernel
theorem dX6_happen_117 : decode cX6_happen 117 = .ok (.getfield 185, 3) := by decide +kernel
theorem dX6_happen_120 : decode cX6_happen 120 = .ok (.iload_n 2, 1) := by decide +kernel
theorem dX6_happen_121 : decode cX6_happen 121 = .ok (.iastore, 1) := by decide +kernel
theorem dX6_happen_122 : decode cX6_happen 122 = .ok (.aload_n 0, 1) := by decide +kernel
theorem dX6_happen_123 : decode cX6_happen 123 = .ok (.dup, 1) := by decide +kernel
theorem dX6_happen_124 : decode cX6_happen 124 = .ok (.getfield 185, 3) := by decide +kernel
theorem dX6_happen_127 : decode cX6_happen 127 = .ok (.iconst 1, 1) := by decide +kernel
theorem dX6_happen_128 : decode cX6_happen 128 = .ok (.iadd, 1) := by decide +kernel
theorem dX6_happen_129 : decode cX6_happen 129 = .ok (.putfield 185, 3) := by decide +kernel
theorem dX6_happen_132 : decode cX6_happen 132 = .ok (.goto 46, 3) := by decide +kernel
theorem dX6_happen_135 : decode cX6_happen 135 = .ok (.aload_n 0, 1) := by decide +kernel
theorem dX6_happen_136 : decode cX6_happen 136 = .ok (.getfield 59, 3) := by decide +kernel
theorem dX6_happen_139 : decode cX6_happen 139 = .ok (.iload_n 2, 1) := by decide +kernel
theorem dX6_happen_140 : decode cX6_happen 140 = .ok (.iload_n 3, 1) := by decide +kernel
theorem dX6_happen_141 : decode cX6_happen 141 = .ok (.iastore, 1) := by decide +kernel
theorem dX6_happen_142 : decode cX6_happen 142 = .ok (.goto 36, 3) := by decide +kernel
theorem dX6_happen_145 : decode cX6_happen 145 = .ok (.aload_n 0, 1) := by decide +kernel
theorem dX6_happen_146 : decode cX6_happen 146 = .ok (.getfield 65, 3) := by decide +kernel
theorem dX6_happen_149 : decode cX6_happen 149 = .ok (.iload_n 2, 1) := by decide +kernel
theorem dX6_happen_150 : decode cX6_happen 150 = .ok (.dup2, 1) := by decide +kernel
theorem dX6_happen_151 : decode cX6_happen 151 = .ok (.iaload, 1) := by decide +kernel
theorem dX6_happen_152 : decode cX6_happen 152 = .ok (.iconst 1, 1) := by decide +kernel
theorem dX6_happen_153 : decode cX6_happen 153 = .ok (.iadd, 1) := by decide +kernel
theorem dX6_happen_154 : decode cX6_happen 154 = .ok (.iastore, 1) := by decide +kernel
theorem dX6_happen_155 : decode cX6_happen 155 = .ok (.aload_n 0, 1) := by decide +kernel
theorem dX6_happen_156 : decode cX6_happen 156 = .ok (.dup, 1) := by decide +kernel
theorem dX6_happen_157 : decode cX6_happen 157 = .ok (.getfield 196, 3) := by decide +kernel
theorem dX6_happen_160 : decode cX6_happen 160 = .ok (.iconst 1, 1) := by decide +kernel
theorem dX6_happen_161 : decode cX6_happen 161 = .ok (.isub, 1) := by decide +kernel
theorem dX6_happen_162 : decode cX6_happen 162 = .ok (.putfield 196, 3) := by decide +kernel
theorem dX6_happen_165 : decode cX6_happen 165 = .ok (.goto 13, 3) := by decide +kernel
theorem dX6_happen_168 : decode cX6_happen 168 = .ok (.aload_n 0, 1) := by decide +kernel
theorem dX6_happen_169 : decode cX6_happen 169 = .ok (.getfield 62, 3) := by decide +kernel
theorem dX6_happen_172 : decode cX6_happen 172 = .ok (.iload_n 2, 1) := by decide +kernel
theorem dX6_happen_173 : decode cX6_happen 173 = .ok (.dup2, 1) := by decide +kernel
theorem dX6_happen_174 : decode cX6_happen 174 = .ok (.iaload, 1) := by decide +kernel
theorem dX6_happen_175 : decode cX6_happen 175 = .ok (.iconst 1, 1) := by decide +kernel
theorem dX6_happen_176 : decode cX6_happen 176 = .ok (.iadd, 1) := by decide +kernel
theorem dX6_happen_177 : decode cX6_happen 177 = .ok (.iastore, 1) := by decide +kernel
theorem dX6_happen_178 : decode cX6_happen 178 = .ok (.return_, 1) := by decide +kernel
set_option maxRecDepth 20000 in
theorem ggX6_goThrough_X6_happen : GoodIn wsX6_goThrough wsX6_happen := goodIn_r _ [16, 17, 9, 18, 19, 20, 5, 1, 21, 3, 22, 8, 23, 24, 25, 15, 26, 27, 28, 29, 30, 31, 32, 33, 34, 35, 36, 37, 38, 39, 40, 41, 42, 43, 44, 45, 46, 47, 48, 49, 50, 51, 52, 53, 54, 55, 56, 57, 58, 59, 60, 61, 62, 63, 64, 65, 66, 67, 68, 69, 70, 71, 72, 73, 74, 75, 76, 77, 78] (by decide +kernel) (by decide +kernel)
set_option maxRecDepth 20000 in
theorem gX6_goThrough_X6_happen : GoodIn wsX6_goThrough (wsV RX6 199 RX6 yX6_happen wsX6_happen) := goodIn_app (goodIn_of _ (by decide +kernel)) ggX6_goThrough_X6_happen
theorem dX6_goThrough_0 : decode cX6_goThrough 0 = .ok (.iconst 0, 1) := by decide +kernel
theorem dX6_goThrough_1 : decode cX6_goThrough 1 = .ok (.istore_n 1, 1) := by decide +kernel
theorem dX6_goThrough_2 : decode cX6_goThrough 2 = .ok (.iload_n 1, 1) := by decide +kernel
theorem dX6_goThrough_3 : decode cX6_goThrough 3 = .ok (.bipush 6, 2) := by decide +kernel
theorem dX6_goThrough_5 : decode cX6_goThrough 5 = .ok (.if_icmp .ge 45, 3) := by decide +kernel
theorem dX6_goThrough_8 : decode cX6_goThrough 8 = .ok (.aload_n 0, 1) := by decide +kernel
theorem dX6_goThrough_9 : decode cX6_goThrough 9 = .ok (.getfield 59, 3) := by decide +kernel
theorem dX6_goThrough_12 : decode cX6_goThrough 12 = .ok (.iload_n 1, 1) := by decide +kernel
theorem dX6_goThrough_13 : decode cX6_goThrough 13 = .ok (.aload_n 0, 1) := by decide +kernel
theorem dX6_goThrough_14 : decode cX6_goThrough 14 = .ok (.getfield 50, 3) := by decide +kernel
theorem dX6_goThrough_17 : decode cX6_goThrough 17 = .ok (.iload_n 1, 1) := by decide +kernel
theorem dX6_goThrough_18 : decode cX6_goThrough 18 = .ok (.iaload, 1) := by decide +kernel
theorem dX6_goThrough_19 : decode cX6_goThrough 19 = .ok (.iastore, 1) := by decide +kernel
theorem dX6_goThrough_20 : decode cX6_goThrough 20 = .ok (.aload_n 0, 1) := by decide +kernel
theorem dX6_goThrough_21 : decode cX6_goThrough 21 = .ok (.getfield 62, 3) := by decide +kernel
theorem dX6_goThrough_24 : decode cX6_goThrough 24 = .ok (.iload_n 1, 1) := by decide +kernel
theorem dX6_goThrough_25 : decode cX6_goThrough 25 = .ok (.aload_n 0, 1) := by decide +kernel
theorem dX6_goThrough_26 : decode cX6_goThrough 26 = .ok (.getfield 53, 3) := by decide +kernel
theorem dX6_goThrough_29 : decode cX6_goThrough 29 = .ok (.iload_n 1, 1) := by decide +kernel
theorem dX6_goThrough_30 : decode cX6_goThrough 30 = .ok (.iaload, 1) := by decide +kernel
theorem dX6_goThrough_31 : decode cX6_goThrough 31 = .ok (.iastore, 1) := by decide +kernel
theorem dX6_goThrough_32 : decode cX6_goThrough 32 = .ok (.aload_n 0, 1) := by decide +kernel
theorem dX6_goThrough_33 : decode cX6_goThrough 33 = .ok (.getfield 65, 3) := by decide +kernel
theorem dX6_goThrough_36 : decode cX6_goThrough 36 = .ok (.iload_n 1, 1) := by decide +kernel
theorem dX6_goThrough_37 : decode cX6_goThrough 37 = .ok (.aload_n 0, 1) := by decide +kernel
theorem dX6_goThrough_38 : decode cX6_goThrough 38 = .ok (.getfield 56, 3) := by decide +kernel
theorem dX6_goThrough_41 : decode cX6_goThrough 41 = .ok (.iload_n 1, 1) := by decide +kernel
theorem dX6_goThrough_42 : decode cX6_goThrough 42 = .ok (.iaload, 1) := by decide +kernel
theorem dX6_goThrough_43 : decode cX6_goThrough 43 = .ok (.iastore, 1) := by decide +kernel
theorem dX6_goThrough_44 : decode cX6_goThrough 44 = .ok (.iinc 1 1, 3) := by decide +kernel
theorem dX6_goThrough_47 : decode cX6_goThrough 47 = .ok (.goto (-45), 3) := by decide +kernel
theorem dX6_goThrough_50 : decode cX6_goThrough 50 = .ok (.aload_n 0, 1) := by decide +kernel
theorem dX6_goThrough_51 : decode cX6_goThrough 51 = .ok (.aload_n 0, 1) := by decide +kernel
theorem dX6_goThrough_52 : decode cX6_goThrough 52 = .ok (.getfield 170, 3) := by decide +kernel
theorem dX6_goThrough_55 : decode cX6_goThrough 55 = .ok (.putfield 196, 3) := by decide +kernel
theorem dX6_goThrough_58 : decode cX6_goThrough 58 = .ok (.aload_n 0, 1) := by decide +kernel
theorem dX6_goThrough_59 : decode cX6_goThrough 59 = .ok (.iconst 0, 1) := by decide +kernel
theorem dX6_goThrough_60 : decode cX6_goThrough 60 = .ok (.putfield 185, 3) := by decide +kernel
theorem dX6_goThrough_63 : decode cX6_goThrough 63 = .ok (.iconst 0, 1) := by decide +kernel
theorem dX6_goThrough_64 : decode cX6_goThrough 64 = .ok (.istore_n 1, 1) := by decide +kernel
theorem dX6_goThrough_65 : decode cX6_goThrough 65 = .ok (.iload_n 1, 1) := by decide +kernel
theorem dX6_goThrough_66 : decode cX6_goThrough 66 = .ok (.aload_n 0, 1) := by decide +kernel
theorem dX6_goThrough_67 : decode cX6_goThrough 67 = .ok (.getfield 173, 3) := by decide +kernel
theorem dX6_goThrough_70 : decode cX6_goThrough 70 = .ok (.if_icmp .ge 41, 3) := by decide +kernel
theorem dX6_goThrough_73 : decode cX6_goThrough 73 = .ok (.aload_n 0, 1) := by decide +kernel
theorem dX6_goThrough_74 : decode cX6_goThrough 74 = .ok (.aload_n 0, 1) := by decide +kernel
theorem dX6_goThrough_75 : decode cX6_goThrough 75 = .ok (.getfield 80, 3) := by decide +kernel
theorem dX6_goThrough_78 : decode cX6_goThrough 78 = .ok (.iconst 3, 1) := by decide +kernel
theorem dX6_goThrough_79 : decode cX6_goThrough 79 = .ok (.iload_n 1, 1) := by decide +kernel
theorem dX6_goThrough_80 : decode cX6_goThrough 80 = .ok (.imul, 1) := by decide +kernel
theorem dX6_goThrough_81 : decode cX6_goThrough 81 = .ok (.iaload, 1) := by decide +kernel
theorem dX6_goThrough_82 : decode cX6_goThrough 82 = .ok (.aload_n 0, 1) := by decide +kernel
theorem dX6_goThrough_83 : decode cX6_goThrough 83 = .ok (.getfield 80, 3) := by decide +kernel
theorem dX6_goThrough_86 : decode cX6_goThrough 86 = .ok (.iconst 3, 1) := by decide +kernel
theorem dX6_goThrough_87 : decode cX6_goThrough 87 = .ok (.iload_n 1, 1) := by decide +kernel
theorem dX6_goThrough_88 : decode cX6_goThrough 88 = .ok (.imul, 1) := by decide +kernel
theorem dX6_goThrough_89 : decode cX6_goThrough 89 = .ok (.iconst 1, 1) := by decide +kernel
theorem dX6_goThrough_90 : decode cX6_goThrough 90 = .ok (.iadd, 1) := by decide +kernel
theorem dX6_goThrough_91 : decode cX6_goThrough 91 = .ok (.iaload, 1) := by decide +kernel
theorem dX6_goThrough_92 : decode cX6_goThrough 92 = .ok (.aload_n 0, 1) := by decide +kernel
theorem dX6_goThrough_93 : decode cX6_goThrough 93 = .ok (.getfield 80, 3) := by decide +kernel
theorem dX6_goThrough_96 : decode cX6_goThrough 96 = .ok (.iconst 3, 1) := by decide +kernel
theorem dX6_goThrough_97 : decode cX6_goThrough 97 = .ok (.iload_n 1, 1) := by decide +kernel
theorem dX6_goThrough_98 : decode cX6_goThrough 98 = .ok (.imul, 1) := by decide +kernel
theorem dX6_goThrough_99 : decode cX6_goThrough 99 = .ok (.iconst 2, 1) := by decide +kernel
theorem dX6_goThrough_100 : decode cX6_goThrough 100 = .ok (.iadd, 1) := by decide +kernel
theorem dX6_goThrough_101 : decode cX6_goThrough 101 = .ok (.iaload, 1) := by decide +kernel
theorem dX6_goThrough_102 : decode cX6_goThrough 102 = .ok (.invokevirtual 199, 3) := by decide +kernel
theorem dX6_goThrough_105 : decode cX6_goThrough 105 = .ok (.iinc 1 1, 3) := by decide +kernel
theorem dX6_goThrough_108 : decode cX6_goThrough 108 = .ok (.goto (-43), 3) := by decide +kernel
theorem dX6_goThrough_111 : decode cX6_goThrough 111 = .ok (.return_, 1) := by decide +kernel
set_option maxRecDepth 20000 in
theorem ggX6_does_X6_happen : GoodIn wsX6_does wsX6_happen := goodIn_r _ [7, 8, 9, 10, 11, 12, 13, 14, 15, 16, 17, 18, 19, 20, 21, 6, 22, 23, 24, 25, 26, 27, 28, 29, 30, 31, 32, 33, 34, 35, 36, 37, 38, 39, 40, 41, 42, 43, 44, 45, 46, 47, 48, 49, 50, 51, 52, 53, 54, 55, 56, 57, 58, 59, 60, 61, 62, 63, 64, 65, 66, 67, 68, 69, 70, 71, 72, 73, 74] (by decide +kernel) (by decide +kernel)
set_option maxRecDepth 20000 in
theorem gX6_does_X6_happen : GoodIn wsX6_does (wsV RX6 199 RX6 yX6_happen wsX6_happen) := goodIn_app (goodIn_of _ (by decide +kernel)) ggX6_does_X6_happen
theorem dX6_does_0 : decode cX6_does 0 = .ok (.aload_n 0, 1) := by decide +kernel
theorem dX6_does_1 : decode cX6_does 1 = .ok (.getfield 80, 3) := by decide +kernel
theorem dX6_does_4 : decode cX6_does 4 = .ok (.iconst 3, 1) := by decide +kernel
theorem dX6_does_5 : decode cX6_does 5 = .ok (.aload_n 0, 1) := by decide +kernel
theorem dX6_does_6 : decode cX6_does 6 = .ok (.getfield 173, 3) := by decide +kernel
theorem dX6_does_9 : decode cX6_does 9 = .ok (.imul, 1) := by decide +kernel
theorem dX6_does_10 : decode cX6_does 10 = .ok (.iload_n 1, 1) := by decide +kernel
theorem dX6_does_11 : decode cX6_does 11 = .ok (.iastore, 1) := by decide +kernel
theorem dX6_does_12 : decode cX6_does 12 = .ok (.aload_n 0, 1) := by decide +kernel
theorem dX6_does_13 : decode cX6_does 13 = .ok (.getfield 80, 3) := by decide +kernel
theorem dX6_does_16 : decode cX6_does 16 = .ok (.iconst 3, 1) := by decide +kernel
theorem dX6_does_17 : decode cX6_does 17 = .ok (.aload_n 0, 1) := by decide +kernel
theorem dX6_does_18 : decode cX6_does 18 = .ok (.getfield 173, 3) := by decide +kernel
theorem dX6_does_21 : decode cX6_does 21 = .ok (.imul, 1) := by decide +kernel
theorem dX6_does_22 : decode cX6_does 22 = .ok (.iconst 1, 1) := by decide +kernel
theorem dX6_does_23 : decode cX6_does 23 = .ok (.iadd, 1) := by decide +kernel
theorem dX6_does_24 : decode cX6_does 24 = .ok (.iload_n 2, 1) := by decide +kernel
theorem dX6_does_25 : decode cX6_does 25 = .ok (.iastore, 1) := by decide +kernel
theorem dX6_does_26 : decode cX6_does 26 = .ok (.aload_n 0, 1) := by decide +kernel
theorem dX6_does_27 : decode cX6_does 27 = .ok (.getfield 80, 3) := by decide +kernel
theorem dX6_does_30 : decode cX6_does 30 = .ok (.iconst 3, 1) := by decide +kernel
theorem dX6_does_31 : decode cX6_does 31 = .ok (.aload_n 0, 1) := by decide +kernel
theorem dX6_does_32 : decode cX6_does 32 = .ok (.getfield 173, 3) := by decide +kernel
theorem dX6_does_35 : decode cX6_does 35 = .ok (.imul, 1) := by decide +kernel
theorem dX6_does_36 : decode cX6_does 36 = .ok (.iconst 2, 1) := by decide +kernel
theorem dX6_does_37 : decode cX6_does 37 = .ok (.iadd, 1) := by decide +kernel
theorem dX6_does_38 : decode cX6_does 38 = .ok (.iload_n 3, 1) := by decide +kernel
theorem dX6_does_39 : decode cX6_does 39 = .ok (.iastore, 1) := by decide +kernel
theorem dX6_does_40 : decode cX6_does 40 = .ok (.aload_n 0, 1) := by decide +kernel
theorem dX6_does_41 : decode cX6_does 41 = .ok (.dup, 1) := by decide +kernel
theorem dX6_does_42 : decode cX6_does 42 = .ok (.getfield 173, 3) := by decide +kernel
theorem dX6_does_45 : decode cX6_does 45 = .ok (.iconst 1, 1) := by decide +kernel
theorem dX6_does_46 : decode cX6_does 46 = .ok (.iadd, 1) := by decide +kernel
theorem dX6_does_47 : decode cX6_does 47 = .ok (.putfield 173, 3) := by decide +kernel
theorem dX6_does_50 : decode cX6_does 50 = .ok (.aload_n 0, 1) := by decide +kernel
theorem dX6_does_51 : decode cX6_does 51 = .ok (.iload_n 1, 1) := by decide +kernel
theorem dX6_does_52 : decode cX6_does 52 = .ok (.iload_n 2, 1) := by decide +kernel
theorem dX6_does_53 : decode cX6_does 53 = .ok (.iload_n 3, 1) := by decide +kernel
theorem dX6_does_54 : decode cX6_does 54 = .ok (.invokevirtual 199, 3) := by decide +kernel
theorem dX6_does_57 : decode cX6_does 57 = .ok (.return_, 1) := by decide +kernel
set_option maxRecDepth 20000 in
theorem ggX6_manyWet_X6_wet : GoodIn wsX6_manyWet wsX6_wet := goodIn_r _ [7] (by decide +kernel) (by decide +kernel)
set_option maxRecDepth 20000 in
theorem gX6_manyWet_X6_wet : GoodIn wsX6_manyWet (va_wsS RX6 182 yX6_wet wsX6_wet) := goodIn_app (goodIn_of _ (by decide +kernel)) ggX6_manyWet_X6_wet
theorem dX6_manyWet_0 : decode cX6_manyWet 0 = .ok (.iconst 0, 1) := by decide +kernel
theorem dX6_manyWet_1 : decode cX6_manyWet 1 = .ok (.istore_n 2, 1) := by decide +kernel
theorem dX6_manyWet_2 : decode cX6_manyWet 2 = .ok (.iconst 0, 1) := by decide +kernel
theorem dX6_manyWet_3 : decode cX6_manyWet 3 = .ok (.istore_n 3, 1) := by decide +kernel
theorem dX6_manyWet_4 : decode cX6_manyWet 4 = .ok (.iload_n 3, 1) := by decide +kernel
theorem dX6_manyWet_5 : decode cX6_manyWet 5 = .ok (.aload_n 0, 1) := by decide +kernel
theorem dX6_manyWet_6 : decode cX6_manyWet 6 = .ok (.getfield 167, 3) := by decide +kernel
theorem dX6_manyWet_9 : decode cX6_manyWet 9 = .ok (.if_icmp .ge 35, 3) := by decide +kernel
theorem dX6_manyWet_12 : decode cX6_manyWet 12 = .ok (.iload_n 2, 1) := by decide +kernel
theorem dX6_manyWet_13 : decode cX6_manyWet 13 = .ok (.iload_n 1, 1) := by decide +kernel
theorem dX6_manyWet_14 : decode cX6_manyWet 14 = .ok (.aload_n 0, 1) := by decide +kernel
theorem dX6_manyWet_15 : decode cX6_manyWet 15 = .ok (.getfield 65, 3) := by decide +kernel
theorem dX6_manyWet_18 : decode cX6_manyWet 18 = .ok (.aload_n 0, 1) := by decide +kernel
theorem dX6_manyWet_19 : decode cX6_manyWet 19 = .ok (.getfield 59, 3) := by decide +kernel
theorem dX6_manyWet_22 : decode cX6_manyWet 22 = .ok (.iload_n 3, 1) := by decide +kernel
theorem dX6_manyWet_23 : decode cX6_manyWet 23 = .ok (.iaload, 1) := by decide +kernel
theorem dX6_manyWet_24 : decode cX6_manyWet 24 = .ok (.iaload, 1) := by decide +kernel
theorem dX6_manyWet_25 : decode cX6_manyWet 25 = .ok (.invokestatic 182, 3) := by decide +kernel
theorem dX6_manyWet_28 : decode cX6_manyWet 28 = .ok (.ifCond .le 7, 3) := by decide +kernel
theorem dX6_manyWet_31 : decode cX6_manyWet 31 = .ok (.iconst 1, 1) := by decide +kernel
theorem dX6_manyWet_32 : decode cX6_manyWet 32 = .ok (.goto 4, 3) := by decide +kernel
theorem dX6_manyWet_35 : decode cX6_manyWet 35 = .ok (.iconst 0, 1) := by decide +kernel
theorem dX6_manyWet_36 : decode cX6_manyWet 36 = .ok (.iadd, 1) := by decide +kernel
theorem dX6_manyWet_37 : decode cX6_manyWet 37 = .ok (.istore_n 2, 1) := by decide +kernel
theorem dX6_manyWet_38 : decode cX6_manyWet 38 = .ok (.iinc 3 1, 3) := by decide +kernel
theorem dX6_manyWet_41 : decode cX6_manyWet 41 = .ok (.goto (-37), 3) := by decide +kernel
theorem dX6_manyWet_44 : decode cX6_manyWet 44 = .ok (.iload_n 2, 1) := by decide +kernel
theorem dX6_manyWet_45 : decode cX6_manyWet 45 = .ok (.ireturn, 1) := by decide +kernel
set_option maxRecDepth 20000 in
theorem ggX6_woman_X6_isWoman : GoodIn wsX6_woman wsX6_isWoman := goodIn_r _ [5, 6, 7, 8, 4, 9, 25, 26, 27, 28, 29, 30, 31, 32, 33, 34, 35, 36, 37, 38, 39, 40, 41, 42, 43, 44, 45, 46, 47, 48, 49, 50, 51, 52, 53, 54, 55, 56, 57, 58, 59, 60, 61, 62, 63, 64, 65, 66] (by decide +kernel) (by decide +kernel)
set_option maxRecDepth 20000 in
theorem gX6_woman_X6_isWoman : GoodIn wsX6_woman (wsV RX6 203 RX6 yX6_isWoman wsX6_isWoman) := goodIn_app (goodIn_of _ (by decide +kernel)) ggX6_woman_X6_isWoman
set_option maxRecDepth 20000 in
theorem ggX6_woman_X6_in : GoodIn wsX6_woman wsX6_in := goodIn_r _ [9] (by decide +kernel) (by decide +kernel)
set_option maxRecDepth 20000 in
theorem gX6_woman_X6_in : GoodIn wsX6_woman (va_wsS RX6 109 yX6_in wsX6_in) := goodIn_app (goodIn_of _ (by decide +kernel)) ggX6_woman_X6_in
set_option maxRecDepth 20000 in
theorem ggX6_woman_X6_ofWoman : GoodIn wsX6_woman wsX6_ofWoman := goodIn_r _ [13, 14, 15, 16, 17, 18, 19, 25, 26, 27, 28, 29, 30, 31, 32, 33, 34, 35, 36, 37, 38, 39, 40, 41, 42, 43, 44, 45, 46, 47, 48, 49, 50, 51, 52, 53, 54, 55, 56, 57, 58, 59, 60, 61, 62, 63, 64, 65, 66] (by decide +kernel) (by decide +kernel)
set_option maxRecDepth 20000 in
theorem gX6_woman_X6_ofWoman : GoodIn wsX6_woman (wsV RX6 206 RX6 yX6_ofWoman wsX6_ofWoman) := goodIn_app (goodIn_of _ (by decide +kernel)) ggX6_woman_X6_ofWoman
set_option maxRecDepth 20000 in
theorem ggX6_woman_X6_tellsAsked : GoodIn wsX6_woman wsX6_tellsAsked := goodIn_r _ [23, 24, 25, 26, 27, 28, 29, 30, 31, 32, 33, 34, 35, 36, 37, 38, 39, 40, 41, 42, 43, 44, 45, 46, 47, 48, 49, 50, 51, 52, 53, 54, 55, 56, 57, 58, 59, 60, 61, 62, 63, 64, 65, 66] (by decide +kernel) (by decide +kernel)
set_option maxRecDepth 20000 in
theorem gX6_woman_X6_tellsAsked : GoodIn wsX6_woman (wsV RX6 125 RX6 yX6_tellsAsked wsX6_tellsAsked) := goodIn_app (goodIn_of _ (by decide +kernel)) ggX6_woman_X6_tellsAsked
theorem dX6_woman_0 : decode cX6_woman 0 = .ok (.aload_n 0, 1) := by decide +kernel
theorem dX6_woman_1 : decode cX6_woman 1 = .ok (.iload_n 1, 1) := by decide +kernel
theorem dX6_woman_2 : decode cX6_woman 2 = .ok (.invokevirtual 203, 3) := by decide +kernel
theorem dX6_woman_5 : decode cX6_woman 5 = .ok (.ifCond .eq 12, 3) := by decide +kernel
theorem dX6_woman_8 : decode cX6_woman 8 = .ok (.iload_n 2, 1) := by decide +kernel
theorem dX6_woman_9 : decode cX6_woman 9 = .ok (.iconst 0, 1) := by decide +kernel
theorem dX6_woman_10 : decode cX6_woman 10 = .ok (.iconst 5, 1) := by decide +kernel
theorem dX6_woman_11 : decode cX6_woman 11 = .ok (.invokestatic 109, 3) := by decide +kernel
theorem dX6_woman_14 : decode cX6_woman 14 = .ok (.ifCond .ne 5, 3) := by decide +kernel
theorem dX6_woman_17 : decode cX6_woman 17 = .ok (.iconst (-1), 1) := by decide +kernel
theorem dX6_woman_18 : decode cX6_woman 18 = .ok (.ireturn, 1) := by decide +kernel
theorem dX6_woman_19 : decode cX6_woman 19 = .ok (.aload_n 0, 1) := by decide +kernel
theorem dX6_woman_20 : decode cX6_woman 20 = .ok (.aload_n 0, 1) := by decide +kernel
theorem dX6_woman_21 : decode cX6_woman 21 = .ok (.iload_n 1, 1) := by decide +kernel
theorem dX6_woman_22 : decode cX6_woman 22 = .ok (.iload_n 2, 1) := by decide +kernel
theorem dX6_woman_23 : decode cX6_woman 23 = .ok (.invokevirtual 206, 3) := by decide +kernel
theorem dX6_woman_26 : decode cX6_woman 26 = .ok (.invokevirtual 125, 3) := by decide +kernel
theorem dX6_woman_29 : decode cX6_woman 29 = .ok (.ireturn, 1) := by decide +kernel
theorem dX6_ofWoman_0 : decode cX6_ofWoman 0 = .ok (.iload_n 2, 1) := by decide +kernel
theorem dX6_ofWoman_1 : decode cX6_ofWoman 1 = .ok (.tableswitch 68 0 4 #[35, 42, 49, 56, 63], 35) := by decide +kernel
theorem dX6_ofWoman_36 : decode cX6_ofWoman 36 = .ok (.aload_n 0, 1) := by decide +kernel
theorem dX6_ofWoman_37 : decode cX6_ofWoman 37 = .ok (.getfield 44, 3) := by decide +kernel
theorem dX6_ofWoman_40 : decode cX6_ofWoman 40 = .ok (.iload_n 1, 1) := by decide +kernel
theorem dX6_ofWoman_41 : decode cX6_ofWoman 41 = .ok (.iaload, 1) := by decide +kernel
theorem dX6_ofWoman_42 : decode cX6_ofWoman 42 = .ok (.ireturn, 1) := by decide +kernel
theorem dX6_ofWoman_43 : decode cX6_ofWoman 43 = .ok (.aload_n 0, 1) := by decide +kernel
theorem dX6_ofWoman_44 : decode cX6_ofWoman 44 = .ok (.getfield 59, 3) := by decide +kernel
theorem dX6_ofWoman_47 : decode cX6_ofWoman 47 = .ok (.iload_n 1, 1) := by decide +kernel
theorem dX6_ofWoman_48 : decode cX6_ofWoman 48 = .ok (.iaload, 1) := by decide +kernel
theorem dX6_ofWoman_49 : decode cX6_ofWoman 49 = .ok (.ireturn, 1) := by decide +kernel
theorem dX6_ofWoman_50 : decode cX6_ofWoman 50 = .ok (.aload_n 0, 1) := by decide +kernel
theorem dX6_ofWoman_51 : decode cX6_ofWoman 51 = .ok (.getfield 47, 3) := by decide +kernel
theorem dX6_ofWoman_54 : decode cX6_ofWoman 54 = .ok (.iload_n 1, 1) := by decide +kernel
theorem dX6_ofWoman_55 : decode cX6_ofWoman 55 = .ok (.iaload, 1) := by decide +kernel
theorem dX6_ofWoman_56 : decode cX6_ofWoman 56 = .ok (.ireturn, 1) := by decide +kernel
theorem dX6_ofWoman_57 : decode cX6_ofWoman 57 = .ok (.aload_n 0, 1) := by decide +kernel
theorem dX6_ofWoman_58 : decode cX6_ofWoman 58 = .ok (.getfield 62, 3) := by decide +kernel
theorem dX6_ofWoman_61 : decode cX6_ofWoman 61 = .ok (.iload_n 1, 1) := by decide +kernel
theorem dX6_ofWoman_62 : decode cX6_ofWoman 62 = .ok (.iaload, 1) := by decide +kernel
theorem dX6_ofWoman_63 : decode cX6_ofWoman 63 = .ok (.ireturn, 1) := by decide +kernel
theorem dX6_ofWoman_64 : decode cX6_ofWoman 64 = .ok (.aload_n 0, 1) := by decide +kernel
theorem dX6_ofWoman_65 : decode cX6_ofWoman 65 = .ok (.getfield 185, 3) := by decide +kernel
theorem dX6_ofWoman_68 : decode cX6_ofWoman 68 = .ok (.ireturn, 1) := by decide +kernel
theorem dX6_ofWoman_69 : decode cX6_ofWoman 69 = .ok (.iconst 0, 1) := by decide +kernel
theorem dX6_ofWoman_70 : decode cX6_ofWoman 70 = .ok (.istore_n 3, 1) := by decide +kernel
theorem dX6_ofWoman_71 : decode cX6_ofWoman 71 = .ok (.iconst 0, 1) := by decide +kernel
theorem dX6_ofWoman_72 : decode cX6_ofWoman 72 = .ok (.istore 4, 2) := by decide +kernel
theorem dX6_ofWoman_74 : decode cX6_ofWoman 74 = .ok (.iload 4, 2) := by decide +kernel
theorem dX6_ofWoman_76 : decode cX6_ofWoman 76 = .ok (.aload_n 0, 1) := by decide +kernel
theorem dX6_ofWoman_77 : decode cX6_ofWoman 77 = .ok (.getfield 185, 3) := by decide +kernel
theorem dX6_ofWoman_80 : decode cX6_ofWoman 80 = .ok (.if_icmp .ge 42, 3) := by decide +kernel
theorem dX6_ofWoman_83 : decode cX6_ofWoman 83 = .ok (.aload_n 0, 1) := by decide +kernel
theorem dX6_ofWoman_84 : decode cX6_ofWoman 84 = .ok (.getfield 71, 3) := by decide +kernel
theorem dX6_ofWoman_87 : decode cX6_ofWoman 87 = .ok (.bipush 6, 2) := by decide +kernel
theorem dX6_ofWoman_89 : decode cX6_ofWoman 89 = .ok (.iload 4, 2) := by decide +kernel
theorem dX6_ofWoman_91 : decode cX6_ofWoman 91 = .ok (.imul, 1) := by decide +kernel
theorem dX6_ofWoman_92 : decode cX6_ofWoman 92 = .ok (.iload_n 1, 1) := by decide +kernel
theorem dX6_ofWoman_93 : decode cX6_ofWoman 93 = .ok (.iadd, 1) := by decide +kernel
theorem dX6_ofWoman_94 : decode cX6_ofWoman 94 = .ok (.iaload, 1) := by decide +kernel
theorem dX6_ofWoman_95 : decode cX6_ofWoman 95 = .ok (.iload_n 3, 1) := by decide +kernel
theorem dX6_ofWoman_96 : decode cX6_ofWoman 96 = .ok (.if_icmp .le 18, 3) := by decide +kernel
theorem dX6_ofWoman_99 : decode cX6_ofWoman 99 = .ok (.aload_n 0, 1) := by decide +kernel
theorem dX6_ofWoman_100 : decode cX6_ofWoman 100 = .ok (.getfield 71, 3) := by decide +kernel
theorem dX6_ofWoman_103 : decode cX6_ofWoman 103 = .ok (.bipush 6, 2) := by decide +kernel
theorem dX6_ofWoman_105 : decode cX6_ofWoman 105 = .ok (.iload 4, 2) := by decide +kernel
theorem dX6_ofWoman_107 : decode cX6_ofWoman 107 = .ok (.imul, 1) := by decide +kernel
theorem dX6_ofWoman_108 : decode cX6_ofWoman 108 = .ok (.iload_n 1, 1) := by decide +kernel
theorem dX6_ofWoman_109 : decode cX6_ofWoman 109 = .ok (.iadd, 1) := by decide +kernel
theorem dX6_ofWoman_110 : decode cX6_ofWoman 110 = .ok (.iaload, 1) := by decide +kernel
theorem dX6_ofWoman_111 : decode cX6_ofWoman 111 = .ok (.goto 4, 3) := by decide +kernel
theorem dX6_ofWoman_114 : decode cX6_ofWoman 114 = .ok (.iload_n 3, 1) := by decide +kernel
theorem dX6_ofWoman_115 : decode cX6_ofWoman 115 = .ok (.istore_n 3, 1) := by decide +kernel
theorem dX6_ofWoman_116 : decode cX6_ofWoman 116 = .ok (.iinc 4 1, 3) := by decide +kernel
theorem dX6_ofWoman_119 : decode cX6_ofWoman 119 = .ok (.goto (-45), 3) := by decide +kernel
theorem dX6_ofWoman_122 : decode cX6_ofWoman 122 = .ok (.iload_n 3, 1) := by decide +kernel
theorem dX6_ofWoman_123 : decode cX6_ofWoman 123 = .ok (.ireturn, 1) := by decide +kernel
theorem dX6_isOf_0 : decode cX6_isOf 0 = .ok (.iload_n 0, 1) := by decide +kernel
