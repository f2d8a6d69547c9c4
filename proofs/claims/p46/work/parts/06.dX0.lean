theorem dX0_init_0 : decode cX0_init 0 = .ok (.aload_n 0, 1) := by decide +kernel
theorem dX0_init_1 : decode cX0_init 1 = .ok (.invokespecial 3, 3) := by decide +kernel
theorem dX0_init_4 : decode cX0_init 4 = .ok (.aload_n 0, 1) := by decide +kernel
theorem dX0_init_5 : decode cX0_init 5 = .ok (.bipush 6, 2) := by decide +kernel
theorem dX0_init_7 : decode cX0_init 7 = .ok (.newarray .int, 2) := by decide +kernel
theorem dX0_init_9 : decode cX0_init 9 = .ok (.putfield 9, 3) := by decide +kernel
theorem dX0_init_12 : decode cX0_init 12 = .ok (.aload_n 0, 1) := by decide +kernel
theorem dX0_init_13 : decode cX0_init 13 = .ok (.bipush 6, 2) := by decide +kernel
theorem dX0_init_15 : decode cX0_init 15 = .ok (.newarray .int, 2) := by decide +kernel
theorem dX0_init_17 : decode cX0_init 17 = .ok (.putfield 15, 3) := by decide +kernel
theorem dX0_init_20 : decode cX0_init 20 = .ok (.aload_n 0, 1) := by decide +kernel
theorem dX0_init_21 : decode cX0_init 21 = .ok (.bipush 6, 2) := by decide +kernel
theorem dX0_init_23 : decode cX0_init 23 = .ok (.newarray .int, 2) := by decide +kernel
theorem dX0_init_25 : decode cX0_init 25 = .ok (.putfield 18, 3) := by decide +kernel
theorem dX0_init_28 : decode cX0_init 28 = .ok (.aload_n 0, 1) := by decide +kernel
theorem dX0_init_29 : decode cX0_init 29 = .ok (.bipush 6, 2) := by decide +kernel
theorem dX0_init_31 : decode cX0_init 31 = .ok (.newarray .int, 2) := by decide +kernel
theorem dX0_init_33 : decode cX0_init 33 = .ok (.putfield 21, 3) := by decide +kernel
theorem dX0_init_36 : decode cX0_init 36 = .ok (.aload_n 0, 1) := by decide +kernel
theorem dX0_init_37 : decode cX0_init 37 = .ok (.bipush 6, 2) := by decide +kernel
theorem dX0_init_39 : decode cX0_init 39 = .ok (.newarray .int, 2) := by decide +kernel
theorem dX0_init_41 : decode cX0_init 41 = .ok (.putfield 24, 3) := by decide +kernel
theorem dX0_init_44 : decode cX0_init 44 = .ok (.aload_n 0, 1) := by decide +kernel
theorem dX0_init_45 : decode cX0_init 45 = .ok (.bipush 8, 2) := by decide +kernel
theorem dX0_init_47 : decode cX0_init 47 = .ok (.newarray .int, 2) := by decide +kernel
theorem dX0_init_49 : decode cX0_init 49 = .ok (.putfield 27, 3) := by decide +kernel
theorem dX0_init_52 : decode cX0_init 52 = .ok (.aload_n 0, 1) := by decide +kernel
theorem dX0_init_53 : decode cX0_init 53 = .ok (.bipush 48, 2) := by decide +kernel
theorem dX0_init_55 : decode cX0_init 55 = .ok (.newarray .int, 2) := by decide +kernel
theorem dX0_init_57 : decode cX0_init 57 = .ok (.putfield 30, 3) := by decide +kernel
theorem dX0_init_60 : decode cX0_init 60 = .ok (.aload_n 0, 1) := by decide +kernel
theorem dX0_init_61 : decode cX0_init 61 = .ok (.bipush 48, 2) := by decide +kernel
theorem dX0_init_63 : decode cX0_init 63 = .ok (.newarray .int, 2) := by decide +kernel
theorem dX0_init_65 : decode cX0_init 65 = .ok (.putfield 33, 3) := by decide +kernel
theorem dX0_init_68 : decode cX0_init 68 = .ok (.aload_n 0, 1) := by decide +kernel
theorem dX0_init_69 : decode cX0_init 69 = .ok (.bipush 40, 2) := by decide +kernel
theorem dX0_init_71 : decode cX0_init 71 = .ok (.newarray .int, 2) := by decide +kernel
theorem dX0_init_73 : decode cX0_init 73 = .ok (.putfield 36, 3) := by decide +kernel
theorem dX0_init_76 : decode cX0_init 76 = .ok (.aload_n 0, 1) := by decide +kernel
theorem dX0_init_77 : decode cX0_init 77 = .ok (.bipush 40, 2) := by decide +kernel
theorem dX0_init_79 : decode cX0_init 79 = .ok (.newarray .int, 2) := by decide +kernel
theorem dX0_init_81 : decode cX0_init 81 = .ok (.putfield 39, 3) := by decide +kernel
theorem dX0_init_84 : decode cX0_init 84 = .ok (.aload_n 0, 1) := by decide +kernel
theorem dX0_init_85 : decode cX0_init 85 = .ok (.bipush 40, 2) := by decide +kernel
theorem dX0_init_87 : decode cX0_init 87 = .ok (.newarray .int, 2) := by decide +kernel
theorem dX0_init_89 : decode cX0_init 89 = .ok (.putfield 42, 3) := by decide +kernel
theorem dX0_init_92 : decode cX0_init 92 = .ok (.return_, 1) := by decide +kernel
set_option maxRecDepth 20000 in
theorem ggX0_clear_J7_fill_53178 : GoodIn wsX0_clear wsJ7_fill_53178 := goodIn_r _ [9] (by decide +kernel) (by decide +kernel)
set_option maxRecDepth 20000 in
theorem gX0_clear_J7_fill_53178 : GoodIn wsX0_clear (va_wsS RX0 58 yJ7_fill_53178 wsJ7_fill_53178) := goodIn_app (goodIn_of _ (by decide +kernel)) ggX0_clear_J7_fill_53178
theorem dX0_clear_0 : decode cX0_clear 0 = .ok (.aload_n 0, 1) := by decide +kernel
theorem dX0_clear_1 : decode cX0_clear 1 = .ok (.iconst 0, 1) := by decide +kernel
theorem dX0_clear_2 : decode cX0_clear 2 = .ok (.putfield 45, 3) := by decide +kernel
theorem dX0_clear_5 : decode cX0_clear 5 = .ok (.aload_n 0, 1) := by decide +kernel
theorem dX0_clear_6 : decode cX0_clear 6 = .ok (.iconst 0, 1) := by decide +kernel
theorem dX0_clear_7 : decode cX0_clear 7 = .ok (.putfield 49, 3) := by decide +kernel
theorem dX0_clear_10 : decode cX0_clear 10 = .ok (.aload_n 0, 1) := by decide +kernel
theorem dX0_clear_11 : decode cX0_clear 11 = .ok (.iconst 0, 1) := by decide +kernel
theorem dX0_clear_12 : decode cX0_clear 12 = .ok (.putfield 52, 3) := by decide +kernel
theorem dX0_clear_15 : decode cX0_clear 15 = .ok (.aload_n 0, 1) := by decide +kernel
theorem dX0_clear_16 : decode cX0_clear 16 = .ok (.iconst 0, 1) := by decide +kernel
theorem dX0_clear_17 : decode cX0_clear 17 = .ok (.putfield 55, 3) := by decide +kernel
theorem dX0_clear_20 : decode cX0_clear 20 = .ok (.aload_n 0, 1) := by decide +kernel
theorem dX0_clear_21 : decode cX0_clear 21 = .ok (.getfield 9, 3) := by decide +kernel
theorem dX0_clear_24 : decode cX0_clear 24 = .ok (.iconst 0, 1) := by decide +kernel
theorem dX0_clear_25 : decode cX0_clear 25 = .ok (.invokestatic 58, 3) := by decide +kernel
theorem dX0_clear_28 : decode cX0_clear 28 = .ok (.return_, 1) := by decide +kernel
set_option maxRecDepth 20000 in
theorem ggX0_takeFrom_X5_copyItems : GoodIn wsX0_takeFrom wsX5_copyItems := goodIn_r _ [18, 19, 20, 21, 22, 23, 24, 17, 25, 26, 27, 28, 29] (by decide +kernel) (by decide +kernel)
set_option maxRecDepth 20000 in
theorem gX0_takeFrom_X5_copyItems_n64 : GoodIn wsX0_takeFrom (wsX5_copyItems) := ggX0_takeFrom_X5_copyItems
theorem dX0_takeFrom_0 : decode cX0_takeFrom 0 = .ok (.aload_n 1, 1) := by decide +kernel
theorem dX0_takeFrom_1 : decode cX0_takeFrom 1 = .ok (.ifnonnull 4, 3) := by decide +kernel
theorem dX0_takeFrom_4 : decode cX0_takeFrom 4 = .ok (.return_, 1) := by decide +kernel
theorem dX0_takeFrom_5 : decode cX0_takeFrom 5 = .ok (.aload_n 0, 1) := by decide +kernel
theorem dX0_takeFrom_6 : decode cX0_takeFrom 6 = .ok (.aload_n 1, 1) := by decide +kernel
theorem dX0_takeFrom_7 : decode cX0_takeFrom 7 = .ok (.getfield 45, 3) := by decide +kernel
theorem dX0_takeFrom_10 : decode cX0_takeFrom 10 = .ok (.putfield 45, 3) := by decide +kernel
theorem dX0_takeFrom_13 : decode cX0_takeFrom 13 = .ok (.aload_n 0, 1) := by decide +kernel
theorem dX0_takeFrom_14 : decode cX0_takeFrom 14 = .ok (.aload_n 1, 1) := by decide +kernel
theorem dX0_takeFrom_15 : decode cX0_takeFrom 15 = .ok (.getfield 49, 3) := by decide +kernel
theorem dX0_takeFrom_18 : decode cX0_takeFrom 18 = .ok (.putfield 49, 3) := by decide +kernel
theorem dX0_takeFrom_21 : decode cX0_takeFrom 21 = .ok (.aload_n 0, 1) := by decide +kernel
theorem dX0_takeFrom_22 : decode cX0_takeFrom 22 = .ok (.aload_n 1, 1) := by decide +kernel
theorem dX0_takeFrom_23 : decode cX0_takeFrom 23 = .ok (.getfield 52, 3) := by decide +kernel
theorem dX0_takeFrom_26 : decode cX0_takeFrom 26 = .ok (.putfield 52, 3) := by decide +kernel
theorem dX0_takeFrom_29 : decode cX0_takeFrom 29 = .ok (.aload_n 0, 1) := by decide +kernel
theorem dX0_takeFrom_30 : decode cX0_takeFrom 30 = .ok (.aload_n 1, 1) := by decide +kernel
theorem dX0_takeFrom_31 : decode cX0_takeFrom 31 = .ok (.getfield 55, 3) := by decide +kernel
theorem dX0_takeFrom_34 : decode cX0_takeFrom 34 = .ok (.putfield 55, 3) := by decide +kernel
theorem dX0_takeFrom_37 : decode cX0_takeFrom 37 = .ok (.aload_n 1, 1) := by decide +kernel
theorem dX0_takeFrom_38 : decode cX0_takeFrom 38 = .ok (.getfield 9, 3) := by decide +kernel
theorem dX0_takeFrom_41 : decode cX0_takeFrom 41 = .ok (.aload_n 0, 1) := by decide +kernel
theorem dX0_takeFrom_42 : decode cX0_takeFrom 42 = .ok (.getfield 9, 3) := by decide +kernel
theorem dX0_takeFrom_45 : decode cX0_takeFrom 45 = .ok (.invokestatic 64, 3) := by decide +kernel
theorem dX0_takeFrom_48 : decode cX0_takeFrom 48 = .ok (.aload_n 1, 1) := by decide +kernel
theorem dX0_takeFrom_49 : decode cX0_takeFrom 49 = .ok (.getfield 15, 3) := by decide +kernel
theorem dX0_takeFrom_52 : decode cX0_takeFrom 52 = .ok (.aload_n 0, 1) := by decide +kernel
theorem dX0_takeFrom_53 : decode cX0_takeFrom 53 = .ok (.getfield 15, 3) := by decide +kernel
theorem dX0_takeFrom_56 : decode cX0_takeFrom 56 = .ok (.invokestatic 64, 3) := by decide +kernel
theorem dX0_takeFrom_59 : decode cX0_takeFrom 59 = .ok (.aload_n 1, 1) := by decide +kernel
theorem dX0_takeFrom_60 : decode cX0_takeFrom 60 = .ok (.getfield 18, 3) := by decide +kernel
theorem dX0_takeFrom_63 : decode cX0_takeFrom 63 = .ok (.aload_n 0, 1) := by decide +kernel
theorem dX0_takeFrom_64 : decode cX0_takeFrom 64 = .ok (.getfield 18, 3) := by decide +kernel
theorem dX0_takeFrom_67 : decode cX0_takeFrom 67 = .ok (.invokestatic 64, 3) := by decide +kernel
theorem dX0_takeFrom_70 : decode cX0_takeFrom 70 = .ok (.aload_n 1, 1) := by decide +kernel
theorem dX0_takeFrom_71 : decode cX0_takeFrom 71 = .ok (.getfield 21, 3) := by decide +kernel
theorem dX0_takeFrom_74 : decode cX0_takeFrom 74 = .ok (.aload_n 0, 1) := by decide +kernel
theorem dX0_takeFrom_75 : decode cX0_takeFrom 75 = .ok (.getfield 21, 3) := by decide +kernel
theorem dX0_takeFrom_78 : decode cX0_takeFrom 78 = .ok (.invokestatic 64, 3) := by decide +kernel
theorem dX0_takeFrom_81 : decode cX0_takeFrom 81 = .ok (.aload_n 1, 1) := by decide +kernel
theorem dX0_takeFrom_82 : decode cX0_takeFrom 82 = .ok (.getfield 24, 3) := by decide +kernel
theorem dX0_takeFrom_85 : decode cX0_takeFrom 85 = .ok (.aload_n 0, 1) := by decide +kernel
theorem dX0_takeFrom_86 : decode cX0_takeFrom 86 = .ok (.getfield 24, 3) := by decide +kernel
theorem dX0_takeFrom_89 : decode cX0_takeFrom 89 = .ok (.invokestatic 64, 3) := by decide +kernel
theorem dX0_takeFrom_92 : decode cX0_takeFrom 92 = .ok (.aload_n 1, 1) := by decide +kernel
theorem dX0_takeFrom_93 : decode cX0_takeFrom 93 = .ok (.getfield 27, 3) := by decide +kernel
theorem dX0_takeFrom_96 : decode cX0_takeFrom 96 = .ok (.aload_n 0, 1) := by decide +kernel
theorem dX0_takeFrom_97 : decode cX0_takeFrom 97 = .ok (.getfield 27, 3) := by decide +kernel
theorem dX0_takeFrom_100 : decode cX0_takeFrom 100 = .ok (.invokestatic 64, 3) := by decide +kernel
theorem dX0_takeFrom_103 : decode cX0_takeFrom 103 = .ok (.aload_n 1, 1) := by decide +kernel
theorem dX0_takeFrom_104 : decode cX0_takeFrom 104 = .ok (.getfield 30, 3) := by decide +kernel
theorem dX0_takeFrom_107 : decode cX0_takeFrom 107 = .ok (.aload_n 0, 1) := by decide +kernel
theorem dX0_takeFrom_108 : decode cX0_takeFrom 108 = .ok (.getfield 30, 3) := by decide +kernel
theorem dX0_takeFrom_111 : decode cX0_takeFrom 111 = .ok (.invokestatic 64, 3) := by decide +kernel
theorem dX0_takeFrom_114 : decode cX0_takeFrom 114 = .ok (.aload_n 1, 1) := by decide +kernel
theorem dX0_takeFrom_115 : decode cX0_takeFrom 115 = .ok (.getfield 33, 3) := by decide +kernel
theorem dX0_takeFrom_118 : decode cX0_takeFrom 118 = .ok (.aload_n 0, 1) := by decide +kernel
theorem dX0_takeFrom_119 : decode cX0_takeFrom 119 = .ok (.getfield 33, 3) := by decide +kernel
theorem dX0_takeFrom_122 : decode cX0_takeFrom 122 = .ok (.invokestatic 64, 3) := by decide +kernel
theorem dX0_takeFrom_125 : decode cX0_takeFrom 125 = .ok (.aload_n 1, 1) := by decide +kernel
theorem dX0_takeFrom_126 : decode cX0_takeFrom 126 = .ok (.getfield 36, 3) := by decide +kernel
theorem dX0_takeFrom_129 : decode cX0_takeFrom 129 = .ok (.aload_n 0, 1) := by decide +kernel
theorem dX0_takeFrom_130 : decode cX0_takeFrom 130 = .ok (.getfield 36, 3) := by decide +kernel
theorem dX0_takeFrom_133 : decode cX0_takeFrom 133 = .ok (.invokestatic 64, 3) := by decide +kernel
theorem dX0_takeFrom_136 : decode cX0_takeFrom 136 = .ok (.aload_n 1, 1) := by decide +kernel
theorem dX0_takeFrom_137 : decode cX0_takeFrom 137 = .ok (.getfield 39, 3) := by decide +kernel
theorem dX0_takeFrom_140 : decode cX0_takeFrom 140 = .ok (.aload_n 0, 1) := by decide +kernel
theorem dX0_takeFrom_141 : decode cX0_takeFrom 141 = .ok (.getfield 39, 3) := by decide +kernel
theorem dX0_takeFrom_144 : decode cX0_takeFrom 144 = .ok (.invokestatic 64, 3) := by decide +kernel
theorem dX0_takeFrom_147 : decode cX0_takeFrom 147 = .ok (.aload_n 1, 1) := by decide +kernel
theorem dX0_takeFrom_148 : decode cX0_takeFrom 148 = .ok (.getfield 42, 3) := by decide +kernel
theorem dX0_takeFrom_151 : decode cX0_takeFrom 151 = .ok (.aload_n 0, 1) := by decide +kernel
theorem dX0_takeFrom_152 : decode cX0_takeFrom 152 = .ok (.getfield 42, 3) := by decide +kernel
theorem dX0_takeFrom_155 : decode cX0_takeFrom 155 = .ok (.invokestatic 64, 3) := by decide +kernel
theorem dX0_takeFrom_158 : decode cX0_takeFrom 158 = .ok (.return_, 1) := by decide +kernel
set_option maxRecDepth 20000 in
theorem ggX0_addWoman_X5_setItem : GoodIn wsX0_addWoman wsX5_setItem := goodIn_r _ [8] (by decide +kernel) (by decide +kernel)
set_option maxRecDepth 20000 in
theorem gX0_addWoman_X5_setItem_n68 : GoodIn wsX0_addWoman (wsX5_setItem) := ggX0_addWoman_X5_setItem
theorem dX0_addWoman_0 : decode cX0_addWoman 0 = .ok (.aload_n 0, 1) := by decide +kernel
theorem dX0_addWoman_1 : decode cX0_addWoman 1 = .ok (.getfield 15, 3) := by decide +kernel
theorem dX0_addWoman_4 : decode cX0_addWoman 4 = .ok (.aload_n 0, 1) := by decide +kernel
theorem dX0_addWoman_5 : decode cX0_addWoman 5 = .ok (.getfield 45, 3) := by decide +kernel
theorem dX0_addWoman_8 : decode cX0_addWoman 8 = .ok (.iload_n 1, 1) := by decide +kernel
theorem dX0_addWoman_9 : decode cX0_addWoman 9 = .ok (.invokestatic 68, 3) := by decide +kernel
theorem dX0_addWoman_12 : decode cX0_addWoman 12 = .ok (.aload_n 0, 1) := by decide +kernel
theorem dX0_addWoman_13 : decode cX0_addWoman 13 = .ok (.getfield 18, 3) := by decide +kernel
theorem dX0_addWoman_16 : decode cX0_addWoman 16 = .ok (.aload_n 0, 1) := by decide +kernel
theorem dX0_addWoman_17 : decode cX0_addWoman 17 = .ok (.getfield 45, 3) := by decide +kernel
theorem dX0_addWoman_20 : decode cX0_addWoman 20 = .ok (.iload_n 2, 1) := by decide +kernel
theorem dX0_addWoman_21 : decode cX0_addWoman 21 = .ok (.invokestatic 68, 3) := by decide +kernel
theorem dX0_addWoman_24 : decode cX0_addWoman 24 = .ok (.aload_n 0, 1) := by decide +kernel
theorem dX0_addWoman_25 : decode cX0_addWoman 25 = .ok (.getfield 21, 3) := by decide +kernel
theorem dX0_addWoman_28 : decode cX0_addWoman 28 = .ok (.aload_n 0, 1) := by decide +kernel
theorem dX0_addWoman_29 : decode cX0_addWoman 29 = .ok (.getfield 45, 3) := by decide +kernel
theorem dX0_addWoman_32 : decode cX0_addWoman 32 = .ok (.iload_n 3, 1) := by decide +kernel
theorem dX0_addWoman_33 : decode cX0_addWoman 33 = .ok (.invokestatic 68, 3) := by decide +kernel
theorem dX0_addWoman_36 : decode cX0_addWoman 36 = .ok (.aload_n 0, 1) := by decide +kernel
theorem dX0_addWoman_37 : decode cX0_addWoman 37 = .ok (.getfield 24, 3) := by decide +kernel
theorem dX0_addWoman_40 : decode cX0_addWoman 40 = .ok (.aload_n 0, 1) := by decide +kernel
theorem dX0_addWoman_41 : decode cX0_addWoman 41 = .ok (.getfield 45, 3) := by decide +kernel
theorem dX0_addWoman_44 : decode cX0_addWoman 44 = .ok (.iload 4, 2) := by decide +kernel
theorem dX0_addWoman_46 : decode cX0_addWoman 46 = .ok (.invokestatic 68, 3) := by decide +kernel
theorem dX0_addWoman_49 : decode cX0_addWoman 49 = .ok (.aload_n 0, 1) := by decide +kernel
theorem dX0_addWoman_50 : decode cX0_addWoman 50 = .ok (.dup, 1) := by decide +kernel
theorem dX0_addWoman_51 : decode cX0_addWoman 51 = .ok (.getfield 45, 3) := by decide +kernel
theorem dX0_addWoman_54 : decode cX0_addWoman 54 = .ok (.iconst 1, 1) := by decide +kernel
theorem dX0_addWoman_55 : decode cX0_addWoman 55 = .ok (.iadd, 1) := by decide +kernel
theorem dX0_addWoman_56 : decode cX0_addWoman 56 = .ok (.putfield 45, 3) := by decide +kernel
theorem dX0_addWoman_59 : decode cX0_addWoman 59 = .ok (.return_, 1) := by decide +kernel
theorem dX0_everyone_0 : decode cX0_everyone 0 = .ok (.iconst 1, 1) := by decide +kernel
theorem dX0_everyone_1 : decode cX0_everyone 1 = .ok (.aload_n 0, 1) := by decide +kernel
theorem dX0_everyone_2 : decode cX0_everyone 2 = .ok (.getfield 45, 3) := by decide +kernel
theorem dX0_everyone_5 : decode cX0_everyone 5 = .ok (.ishl, 1) := by decide +kernel
theorem dX0_everyone_6 : decode cX0_everyone 6 = .ok (.iconst 1, 1) := by decide +kernel
theorem dX0_everyone_7 : decode cX0_everyone 7 = .ok (.isub, 1) := by decide +kernel
theorem dX0_everyone_8 : decode cX0_everyone 8 = .ok (.ireturn, 1) := by decide +kernel
set_option maxRecDepth 20000 in
theorem ggX0_groundUnder_X5_item : GoodIn wsX0_groundUnder wsX5_item := goodIn_r _ [5] (by decide +kernel) (by decide +kernel)
set_option maxRecDepth 20000 in
theorem gX0_groundUnder_X5_item_n72 : GoodIn wsX0_groundUnder (wsX5_item) := ggX0_groundUnder_X5_item
theorem dX0_groundUnder_0 : decode cX0_groundUnder 0 = .ok (.aload_n 0, 1) := by decide +kernel
theorem dX0_groundUnder_1 : decode cX0_groundUnder 1 = .ok (.getfield 9, 3) := by decide +kernel
theorem dX0_groundUnder_4 : decode cX0_groundUnder 4 = .ok (.aload_n 0, 1) := by decide +kernel
theorem dX0_groundUnder_5 : decode cX0_groundUnder 5 = .ok (.getfield 18, 3) := by decide +kernel
theorem dX0_groundUnder_8 : decode cX0_groundUnder 8 = .ok (.iload_n 1, 1) := by decide +kernel
theorem dX0_groundUnder_9 : decode cX0_groundUnder 9 = .ok (.invokestatic 72, 3) := by decide +kernel
theorem dX0_groundUnder_12 : decode cX0_groundUnder 12 = .ok (.invokestatic 72, 3) := by decide +kernel
theorem dX0_groundUnder_15 : decode cX0_groundUnder 15 = .ok (.ireturn, 1) := by decide +kernel
set_option maxRecDepth 20000 in
theorem ggX0_wetOf_X0_groundUnder : GoodIn wsX0_wetOf wsX0_groundUnder := goodIn_r _ [9, 10, 11, 12, 13, 14, 15, 16, 17, 18, 19, 20, 21, 22, 23, 24, 25, 26, 27, 28, 29] (by decide +kernel) (by decide +kernel)
set_option maxRecDepth 20000 in
theorem gX0_wetOf_X0_groundUnder : GoodIn wsX0_wetOf (wsV RX0 76 RX0 yX0_groundUnder wsX0_groundUnder) := goodIn_app (goodIn_of _ (by decide +kernel)) ggX0_wetOf_X0_groundUnder
theorem dX0_wetOf_0 : decode cX0_wetOf 0 = .ok (.iconst 0, 1) := by decide +kernel
theorem dX0_wetOf_1 : decode cX0_wetOf 1 = .ok (.iload_n 2, 1) := by decide +kernel
theorem dX0_wetOf_2 : decode cX0_wetOf 2 = .ok (.aload_n 0, 1) := by decide +kernel
theorem dX0_wetOf_3 : decode cX0_wetOf 3 = .ok (.iload_n 1, 1) := by decide +kernel
theorem dX0_wetOf_4 : decode cX0_wetOf 4 = .ok (.invokevirtual 76, 3) := by decide +kernel
theorem dX0_wetOf_7 : decode cX0_wetOf 7 = .ok (.isub, 1) := by decide +kernel
theorem dX0_wetOf_8 : decode cX0_wetOf 8 = .ok (.invokestatic 80, 3) := by decide +kernel
theorem dX0_wetOf_11 : decode cX0_wetOf 11 = .ok (.ireturn, 1) := by decide +kernel
set_option maxRecDepth 20000 in
theorem ggX0_howManyWet_X0_wetOf : GoodIn wsX0_howManyWet wsX0_wetOf := goodIn_r _ [6, 7, 8, 9, 10, 11, 12, 13, 5, 14, 15, 16, 17, 18, 19, 20, 21, 22, 23, 24, 25, 26, 27, 28, 29, 30, 31, 32, 33, 34] (by decide +kernel) (by decide +kernel)
set_option maxRecDepth 20000 in
theorem gX0_howManyWet_X0_wetOf : GoodIn wsX0_howManyWet (wsV RX0 86 RX0 yX0_wetOf wsX0_wetOf) := goodIn_app (goodIn_of _ (by decide +kernel)) ggX0_howManyWet_X0_wetOf
theorem dX0_howManyWet_0 : decode cX0_howManyWet 0 = .ok (.iconst 0, 1) := by decide +kernel
theorem dX0_howManyWet_1 : decode cX0_howManyWet 1 = .ok (.istore_n 2, 1) := by decide +kernel
theorem dX0_howManyWet_2 : decode cX0_howManyWet 2 = .ok (.iconst 0, 1) := by decide +kernel
theorem dX0_howManyWet_3 : decode cX0_howManyWet 3 = .ok (.istore_n 3, 1) := by decide +kernel
theorem dX0_howManyWet_4 : decode cX0_howManyWet 4 = .ok (.iload_n 3, 1) := by decide +kernel
theorem dX0_howManyWet_5 : decode cX0_howManyWet 5 = .ok (.aload_n 0, 1) := by decide +kernel
theorem dX0_howManyWet_6 : decode cX0_howManyWet 6 = .ok (.getfield 45, 3) := by decide +kernel
theorem dX0_howManyWet_9 : decode cX0_howManyWet 9 = .ok (.if_icmp .ge 21, 3) := by decide +kernel
theorem dX0_howManyWet_12 : decode cX0_howManyWet 12 = .ok (.aload_n 0, 1) := by decide +kernel
theorem dX0_howManyWet_13 : decode cX0_howManyWet 13 = .ok (.iload_n 3, 1) := by decide +kernel
theorem dX0_howManyWet_14 : decode cX0_howManyWet 14 = .ok (.iload_n 1, 1) := by decide +kernel
theorem dX0_howManyWet_15 : decode cX0_howManyWet 15 = .ok (.invokevirtual 86, 3) := by decide +kernel
theorem dX0_howManyWet_18 : decode cX0_howManyWet 18 = .ok (.ifCond .le 6, 3) := by decide +kernel
theorem dX0_howManyWet_21 : decode cX0_howManyWet 21 = .ok (.iinc 2 1, 3) := by decide +kernel
theorem dX0_howManyWet_24 : decode cX0_howManyWet 24 = .ok (.iinc 3 1, 3) := by decide +kernel
theorem dX0_howManyWet_27 : decode cX0_howManyWet 27 = .ok (.goto (-23), 3) := by decide +kernel
theorem dX0_howManyWet_30 : decode cX0_howManyWet 30 = .ok (.iload_n 2, 1) := by decide +kernel
theorem dX0_howManyWet_31 : decode cX0_howManyWet 31 = .ok (.ireturn, 1) := by decide +kernel
set_option maxRecDepth 20000 in
theorem ggX0_wetTogether_X0_wetOf : GoodIn wsX0_wetTogether wsX0_wetOf := goodIn_r _ [6, 7, 8, 9, 10, 11, 12, 13, 5, 14, 15, 16, 17, 18, 19, 20, 21, 22, 23, 24, 25, 26, 27, 28, 29, 30, 31, 32, 33, 34] (by decide +kernel) (by decide +kernel)
set_option maxRecDepth 20000 in
theorem gX0_wetTogether_X0_wetOf : GoodIn wsX0_wetTogether (wsV RX0 86 RX0 yX0_wetOf wsX0_wetOf) := goodIn_app (goodIn_of _ (by decide +kernel)) ggX0_wetTogether_X0_wetOf
theorem dX0_wetTogether_0 : decode cX0_wetTogether 0 = .ok (.iconst 0, 1) := by decide +kernel
theorem dX0_wetTogether_1 : decode cX0_wetTogether 1 = .ok (.istore_n 2, 1) := by decide +kernel
theorem dX0_wetTogether_2 : decode cX0_wetTogether 2 = .ok (.iconst 0, 1) := by decide +kernel
theorem dX0_wetTogether_3 : decode cX0_wetTogether 3 = .ok (.istore_n 3, 1) := by decide +kernel
theorem dX0_wetTogether_4 : decode cX0_wetTogether 4 = .ok (.iload_n 3, 1) := by decide +kernel
theorem dX0_wetTogether_5 : decode cX0_wetTogether 5 = .ok (.aload_n 0, 1) := by decide +kernel
theorem dX0_wetTogether_6 : decode cX0_wetTogether 6 = .ok (.getfield 45, 3) := by decide +kernel
theorem dX0_wetTogether_9 : decode cX0_wetTogether 9 = .ok (.if_icmp .ge 18, 3) := by decide +kernel
theorem dX0_wetTogether_12 : decode cX0_wetTogether 12 = .ok (.iload_n 2, 1) := by decide +kernel
theorem dX0_wetTogether_13 : decode cX0_wetTogether 13 = .ok (.aload_n 0, 1) := by decide +kernel
theorem dX0_wetTogether_14 : decode cX0_wetTogether 14 = .ok (.iload_n 3, 1) := by decide +kernel
theorem dX0_wetTogether_15 : decode cX0_wetTogether 15 = .ok (.iload_n 1, 1) := by decide +kernel
theorem dX0_wetTogether_16 : decode cX0_wetTogether 16 = .ok (.invokevirtual 86, 3) := by decide +kernel
theorem dX0_wetTogether_19 : decode cX0_wetTogether 19 = .ok (.iadd, 1) := by decide +kernel
theorem dX0_wetTogether_20 : decode cX0_wetTogether 20 = .ok (.istore_n 2, 1) := by decide +kernel
theorem dX0_wetTogether_21 : decode cX0_wetTogether 21 = .ok (.iinc 3 1, 3) := by decide +kernel
theorem dX0_wetTogether_24 : decode cX0_wetTogether 24 = .ok (.goto (-20), 3) := by decide +kernel
theorem dX0_wetTogether_27 : decode cX0_wetTogether 27 = .ok (.iload_n 2, 1) := by decide +kernel
theorem dX0_wetTogether_28 : decode cX0_wetTogether 28 = .ok (.ireturn, 1) := by decide +kernel
set_option maxRecDepth 20000 in
theorem ggX0_howManyOf_X5_item : GoodIn wsX0_howManyOf wsX5_item := goodIn_r _ [5] (by decide +kernel) (by decide +kernel)
set_option maxRecDepth 20000 in
theorem gX0_howManyOf_X5_item_n72 : GoodIn wsX0_howManyOf (wsX5_item) := ggX0_howManyOf_X5_item
set_option maxRecDepth 20000 in
theorem ggX0_howManyOf_X2_isOf : GoodIn wsX0_howManyOf wsX2_isOf := goodIn_r _ [9] (by decide +kernel) (by decide +kernel)
set_option maxRecDepth 20000 in
theorem gX0_howManyOf_X2_isOf : GoodIn wsX0_howManyOf (va_wsS RX0 89 yX2_isOf wsX2_isOf) := goodIn_app (goodIn_of _ (by decide +kernel)) ggX0_howManyOf_X2_isOf
theorem dX0_howManyOf_0 : decode cX0_howManyOf 0 = .ok (.iconst 0, 1) := by decide +kernel
theorem dX0_howManyOf_1 : decode cX0_howManyOf 1 = .ok (.istore_n 2, 1) := by decide +kernel
theorem dX0_howManyOf_2 : decode cX0_howManyOf 2 = .ok (.iconst 0, 1) := by decide +kernel
theorem dX0_howManyOf_3 : decode cX0_howManyOf 3 = .ok (.istore_n 3, 1) := by decide +kernel
theorem dX0_howManyOf_4 : decode cX0_howManyOf 4 = .ok (.iload_n 3, 1) := by decide +kernel
theorem dX0_howManyOf_5 : decode cX0_howManyOf 5 = .ok (.aload_n 0, 1) := by decide +kernel
theorem dX0_howManyOf_6 : decode cX0_howManyOf 6 = .ok (.getfield 45, 3) := by decide +kernel
theorem dX0_howManyOf_9 : decode cX0_howManyOf 9 = .ok (.if_icmp .ge 27, 3) := by decide +kernel
theorem dX0_howManyOf_12 : decode cX0_howManyOf 12 = .ok (.aload_n 0, 1) := by decide +kernel
theorem dX0_howManyOf_13 : decode cX0_howManyOf 13 = .ok (.getfield 15, 3) := by decide +kernel
theorem dX0_howManyOf_16 : decode cX0_howManyOf 16 = .ok (.iload_n 3, 1) := by decide +kernel
theorem dX0_howManyOf_17 : decode cX0_howManyOf 17 = .ok (.invokestatic 72, 3) := by decide +kernel
theorem dX0_howManyOf_20 : decode cX0_howManyOf 20 = .ok (.iload_n 1, 1) := by decide +kernel
theorem dX0_howManyOf_21 : decode cX0_howManyOf 21 = .ok (.invokestatic 89, 3) := by decide +kernel
theorem dX0_howManyOf_24 : decode cX0_howManyOf 24 = .ok (.ifCond .eq 6, 3) := by decide +kernel
theorem dX0_howManyOf_27 : decode cX0_howManyOf 27 = .ok (.iinc 2 1, 3) := by decide +kernel
theorem dX0_howManyOf_30 : decode cX0_howManyOf 30 = .ok (.iinc 3 1, 3) := by decide +kernel
theorem dX0_howManyOf_33 : decode cX0_howManyOf 33 = .ok (.goto (-29), 3) := by decide +kernel
theorem dX0_howManyOf_36 : decode cX0_howManyOf 36 = .ok (.iload_n 2, 1) := by decide +kernel
theorem dX0_howManyOf_37 : decode cX0_howManyOf 37 = .ok (.ireturn, 1) := by decide +kernel
set_option maxRecDepth 20000 in
theorem ggX0_lastHeight_X5_item : GoodIn wsX0_lastHeight wsX5_item := goodIn_r _ [5] (by decide +kernel) (by decide +kernel)
set_option maxRecDepth 20000 in
theorem gX0_lastHeight_X5_item_n72 : GoodIn wsX0_lastHeight (wsX5_item) := ggX0_lastHeight_X5_item
theorem dX0_lastHeight_0 : decode cX0_lastHeight 0 = .ok (.aload_n 0, 1) := by decide +kernel
theorem dX0_lastHeight_1 : decode cX0_lastHeight 1 = .ok (.getfield 52, 3) := by decide +kernel
theorem dX0_lastHeight_4 : decode cX0_lastHeight 4 = .ok (.ifCond .le 19, 3) := by decide +kernel
theorem dX0_lastHeight_7 : decode cX0_lastHeight 7 = .ok (.aload_n 0, 1) := by decide +kernel
theorem dX0_lastHeight_8 : decode cX0_lastHeight 8 = .ok (.getfield 27, 3) := by decide +kernel
theorem dX0_lastHeight_11 : decode cX0_lastHeight 11 = .ok (.aload_n 0, 1) := by decide +kernel
theorem dX0_lastHeight_12 : decode cX0_lastHeight 12 = .ok (.getfield 52, 3) := by decide +kernel
theorem dX0_lastHeight_15 : decode cX0_lastHeight 15 = .ok (.iconst 1, 1) := by decide +kernel
theorem dX0_lastHeight_16 : decode cX0_lastHeight 16 = .ok (.isub, 1) := by decide +kernel
theorem dX0_lastHeight_17 : decode cX0_lastHeight 17 = .ok (.invokestatic 72, 3) := by decide +kernel
theorem dX0_lastHeight_20 : decode cX0_lastHeight 20 = .ok (.goto 4, 3) := by decide +kernel
theorem dX0_lastHeight_23 : decode cX0_lastHeight 23 = .ok (.iconst 0, 1) := by decide +kernel
theorem dX0_lastHeight_24 : decode cX0_lastHeight 24 = .ok (.ireturn, 1) := by decide +kernel
set_option maxRecDepth 20000 in
theorem ggX0_room_X5_sumOf : GoodIn wsX0_room wsX5_sumOf := goodIn_r _ [4, 5, 6, 3, 7] (by decide +kernel) (by decide +kernel)
set_option maxRecDepth 20000 in
theorem gX0_room_X5_sumOf_n95 : GoodIn wsX0_room (wsX5_sumOf) := ggX0_room_X5_sumOf
theorem dX0_room_0 : decode cX0_room 0 = .ok (.bipush 54, 2) := by decide +kernel
theorem dX0_room_2 : decode cX0_room 2 = .ok (.aload_n 0, 1) := by decide +kernel
theorem dX0_room_3 : decode cX0_room 3 = .ok (.getfield 9, 3) := by decide +kernel
theorem dX0_room_6 : decode cX0_room 6 = .ok (.bipush 6, 2) := by decide +kernel
theorem dX0_room_8 : decode cX0_room 8 = .ok (.invokestatic 95, 3) := by decide +kernel
theorem dX0_room_11 : decode cX0_room 11 = .ok (.isub, 1) := by decide +kernel
theorem dX0_room_12 : decode cX0_room 12 = .ok (.ireturn, 1) := by decide +kernel
set_option maxRecDepth 20000 in
theorem ggX0_hemIfNow_X0_wetOf : GoodIn wsX0_hemIfNow wsX0_wetOf := goodIn_r _ [8, 9, 10, 11, 12, 13, 14, 15, 7, 16, 17, 18, 19, 20, 21, 30, 31, 32, 33, 34, 35, 36, 37, 38, 39, 40, 41, 42, 43, 44] (by decide +kernel) (by decide +kernel)
set_option maxRecDepth 20000 in
theorem gX0_hemIfNow_X0_wetOf : GoodIn wsX0_hemIfNow (wsV RX0 86 RX0 yX0_wetOf wsX0_wetOf) := goodIn_app (goodIn_of _ (by decide +kernel)) ggX0_hemIfNow_X0_wetOf
set_option maxRecDepth 20000 in
theorem ggX0_hemIfNow_X5_item : GoodIn wsX0_hemIfNow wsX5_item := goodIn_r _ [21] (by decide +kernel) (by decide +kernel)
set_option maxRecDepth 20000 in
theorem gX0_hemIfNow_X5_item_n72 : GoodIn wsX0_hemIfNow (wsX5_item) := ggX0_hemIfNow_X5_item
set_option maxRecDepth 20000 in
theorem ggX0_hemIfNow_X2_hemBy : GoodIn wsX0_hemIfNow wsX2_hemBy := goodIn_r _ [25, 26, 27, 11, 28, 29, 10, 12] (by decide +kernel) (by decide +kernel)
set_option maxRecDepth 20000 in
theorem gX0_hemIfNow_X2_hemBy : GoodIn wsX0_hemIfNow (va_wsS RX0 98 yX2_hemBy wsX2_hemBy) := goodIn_app (goodIn_of _ (by decide +kernel)) ggX0_hemIfNow_X2_hemBy
theorem dX0_hemIfNow_0 : decode cX0_hemIfNow 0 = .ok (.iload_n 3, 1) := by decide +kernel
theorem dX0_hemIfNow_1 : decode cX0_hemIfNow 1 = .ok (.aload_n 0, 1) := by decide +kernel
theorem dX0_hemIfNow_2 : decode cX0_hemIfNow 2 = .ok (.iload_n 1, 1) := by decide +kernel
theorem dX0_hemIfNow_3 : decode cX0_hemIfNow 3 = .ok (.iload_n 2, 1) := by decide +kernel
theorem dX0_hemIfNow_4 : decode cX0_hemIfNow 4 = .ok (.invokevirtual 86, 3) := by decide +kernel
theorem dX0_hemIfNow_7 : decode cX0_hemIfNow 7 = .ok (.aload_n 0, 1) := by decide +kernel
theorem dX0_hemIfNow_8 : decode cX0_hemIfNow 8 = .ok (.getfield 21, 3) := by decide +kernel
theorem dX0_hemIfNow_11 : decode cX0_hemIfNow 11 = .ok (.iload_n 1, 1) := by decide +kernel
theorem dX0_hemIfNow_12 : decode cX0_hemIfNow 12 = .ok (.invokestatic 72, 3) := by decide +kernel
theorem dX0_hemIfNow_15 : decode cX0_hemIfNow 15 = .ok (.aload_n 0, 1) := by decide +kernel
theorem dX0_hemIfNow_16 : decode cX0_hemIfNow 16 = .ok (.getfield 24, 3) := by decide +kernel
theorem dX0_hemIfNow_19 : decode cX0_hemIfNow 19 = .ok (.iload_n 1, 1) := by decide +kernel
theorem dX0_hemIfNow_20 : decode cX0_hemIfNow 20 = .ok (.invokestatic 72, 3) := by decide +kernel
theorem dX0_hemIfNow_23 : decode cX0_hemIfNow 23 = .ok (.aload_n 0, 1) := by decide +kernel
theorem dX0_hemIfNow_24 : decode cX0_hemIfNow 24 = .ok (.getfield 52, 3) := by decide +kernel
theorem dX0_hemIfNow_27 : decode cX0_hemIfNow 27 = .ok (.invokestatic 98, 3) := by decide +kernel
theorem dX0_hemIfNow_30 : decode cX0_hemIfNow 30 = .ok (.ireturn, 1) := by decide +kernel
set_option maxRecDepth 20000 in
theorem ggX0_hemIfThen_X5_item : GoodIn wsX0_hemIfThen wsX5_item := goodIn_r _ [10] (by decide +kernel) (by decide +kernel)
set_option maxRecDepth 20000 in
theorem gX0_hemIfThen_X5_item_n72 : GoodIn wsX0_hemIfThen (wsX5_item) := ggX0_hemIfThen_X5_item
set_option maxRecDepth 20000 in
theorem ggX0_hemIfThen_X2_hemBy : GoodIn wsX0_hemIfThen wsX2_hemBy := goodIn_r _ [14, 15, 16, 4, 17, 18, 3, 5] (by decide +kernel) (by decide +kernel)
set_option maxRecDepth 20000 in
theorem gX0_hemIfThen_X2_hemBy : GoodIn wsX0_hemIfThen (va_wsS RX0 98 yX2_hemBy wsX2_hemBy) := goodIn_app (goodIn_of _ (by decide +kernel)) ggX0_hemIfThen_X2_hemBy
theorem dX0_hemIfThen_0 : decode cX0_hemIfThen 0 = .ok (.iload_n 2, 1) := by decide +kernel
theorem dX0_hemIfThen_1 : decode cX0_hemIfThen 1 = .ok (.bipush 6, 2) := by decide +kernel
theorem dX0_hemIfThen_3 : decode cX0_hemIfThen 3 = .ok (.imul, 1) := by decide +kernel
theorem dX0_hemIfThen_4 : decode cX0_hemIfThen 4 = .ok (.iload_n 1, 1) := by decide +kernel
theorem dX0_hemIfThen_5 : decode cX0_hemIfThen 5 = .ok (.iadd, 1) := by decide +kernel
theorem dX0_hemIfThen_6 : decode cX0_hemIfThen 6 = .ok (.istore 5, 2) := by decide +kernel
theorem dX0_hemIfThen_8 : decode cX0_hemIfThen 8 = .ok (.iconst 0, 1) := by decide +kernel
theorem dX0_hemIfThen_9 : decode cX0_hemIfThen 9 = .ok (.iload_n 3, 1) := by decide +kernel
theorem dX0_hemIfThen_10 : decode cX0_hemIfThen 10 = .ok (.aload_n 0, 1) := by decide +kernel
theorem dX0_hemIfThen_11 : decode cX0_hemIfThen 11 = .ok (.getfield 30, 3) := by decide +kernel
theorem dX0_hemIfThen_14 : decode cX0_hemIfThen 14 = .ok (.iload 5, 2) := by decide +kernel
theorem dX0_hemIfThen_16 : decode cX0_hemIfThen 16 = .ok (.invokestatic 72, 3) := by decide +kernel
theorem dX0_hemIfThen_19 : decode cX0_hemIfThen 19 = .ok (.isub, 1) := by decide +kernel
theorem dX0_hemIfThen_20 : decode cX0_hemIfThen 20 = .ok (.invokestatic 80, 3) := by decide +kernel
theorem dX0_hemIfThen_23 : decode cX0_hemIfThen 23 = .ok (.istore 6, 2) := by decide +kernel
theorem dX0_hemIfThen_25 : decode cX0_hemIfThen 25 = .ok (.iload 4, 2) := by decide +kernel
theorem dX0_hemIfThen_27 : decode cX0_hemIfThen 27 = .ok (.iload 6, 2) := by decide +kernel
theorem dX0_hemIfThen_29 : decode cX0_hemIfThen 29 = .ok (.aload_n 0, 1) := by decide +kernel
theorem dX0_hemIfThen_30 : decode cX0_hemIfThen 30 = .ok (.getfield 21, 3) := by decide +kernel
theorem dX0_hemIfThen_33 : decode cX0_hemIfThen 33 = .ok (.iload_n 1, 1) := by decide +kernel
theorem dX0_hemIfThen_34 : decode cX0_hemIfThen 34 = .ok (.invokestatic 72, 3) := by decide +kernel
theorem dX0_hemIfThen_37 : decode cX0_hemIfThen 37 = .ok (.aload_n 0, 1) := by decide +kernel
theorem dX0_hemIfThen_38 : decode cX0_hemIfThen 38 = .ok (.getfield 33, 3) := by decide +kernel
theorem dX0_hemIfThen_41 : decode cX0_hemIfThen 41 = .ok (.iload 5, 2) := by decide +kernel
theorem dX0_hemIfThen_43 : decode cX0_hemIfThen 43 = .ok (.invokestatic 72, 3) := by decide +kernel
theorem dX0_hemIfThen_46 : decode cX0_hemIfThen 46 = .ok (.iload_n 2, 1) := by decide +kernel
theorem dX0_hemIfThen_47 : decode cX0_hemIfThen 47 = .ok (.invokestatic 98, 3) := by decide +kernel
theorem dX0_hemIfThen_50 : decode cX0_hemIfThen 50 = .ok (.ireturn, 1) := by decide +kernel
set_option maxRecDepth 20000 in
theorem ggX0_hemOf_X5_item : GoodIn wsX0_hemOf wsX5_item := goodIn_r _ [5] (by decide +kernel) (by decide +kernel)
set_option maxRecDepth 20000 in
theorem gX0_hemOf_X5_item_n72 : GoodIn wsX0_hemOf (wsX5_item) := ggX0_hemOf_X5_item
set_option maxRecDepth 20000 in
theorem ggX0_hemOf_X0_hemIfThen : GoodIn wsX0_hemOf wsX0_hemIfThen := goodIn_r _ [10, 11, 12, 13, 14, 15, 16, 17, 3, 4, 5, 18, 19, 20, 21, 22, 23, 24, 25, 26, 27, 28, 29, 30, 31, 32, 33, 34, 35, 36, 37, 38, 39, 40] (by decide +kernel) (by decide +kernel)
set_option maxRecDepth 20000 in
theorem gX0_hemOf_X0_hemIfThen : GoodIn wsX0_hemOf (wsV RX0 102 RX0 yX0_hemIfThen wsX0_hemIfThen) := goodIn_app (goodIn_of _ (by decide +kernel)) ggX0_hemOf_X0_hemIfThen
theorem dX0_hemOf_0 : decode cX0_hemOf 0 = .ok (.aload_n 0, 1) := by decide +kernel
theorem dX0_hemOf_1 : decode cX0_hemOf 1 = .ok (.iload_n 1, 1) := by decide +kernel
theorem dX0_hemOf_2 : decode cX0_hemOf 2 = .ok (.iload_n 2, 1) := by decide +kernel
theorem dX0_hemOf_3 : decode cX0_hemOf 3 = .ok (.aload_n 0, 1) := by decide +kernel
theorem dX0_hemOf_4 : decode cX0_hemOf 4 = .ok (.getfield 27, 3) := by decide +kernel
theorem dX0_hemOf_7 : decode cX0_hemOf 7 = .ok (.iload_n 2, 1) := by decide +kernel
theorem dX0_hemOf_8 : decode cX0_hemOf 8 = .ok (.invokestatic 72, 3) := by decide +kernel
theorem dX0_hemOf_11 : decode cX0_hemOf 11 = .ok (.aload_n 0, 1) := by decide +kernel
theorem dX0_hemOf_12 : decode cX0_hemOf 12 = .ok (.getfield 15, 3) := by decide +kernel
theorem dX0_hemOf_15 : decode cX0_hemOf 15 = .ok (.iload_n 1, 1) := by decide +kernel
theorem dX0_hemOf_16 : decode cX0_hemOf 16 = .ok (.invokestatic 72, 3) := by decide +kernel
theorem dX0_hemOf_19 : decode cX0_hemOf 19 = .ok (.invokevirtual 102, 3) := by decide +kernel
theorem dX0_hemOf_22 : decode cX0_hemOf 22 = .ok (.ireturn, 1) := by decide +kernel
set_option maxRecDepth 20000 in
theorem ggX0_plainHemOf_X5_item : GoodIn wsX0_plainHemOf wsX5_item := goodIn_r _ [4] (by decide +kernel) (by decide +kernel)
set_option maxRecDepth 20000 in
theorem gX0_plainHemOf_X5_item_n72 : GoodIn wsX0_plainHemOf (wsX5_item) := ggX0_plainHemOf_X5_item
set_option maxRecDepth 20000 in
theorem ggX0_plainHemOf_X0_hemIfThen : GoodIn wsX0_plainHemOf wsX0_hemIfThen := goodIn_r _ [9, 10, 11, 12, 13, 14, 15, 16, 2, 3, 4, 17, 18, 19, 20, 21, 22, 23, 24, 25, 26, 27, 28, 29, 30, 31, 32, 33, 34, 35, 36, 37, 38, 39] (by decide +kernel) (by decide +kernel)
set_option maxRecDepth 20000 in
theorem gX0_plainHemOf_X0_hemIfThen : GoodIn wsX0_plainHemOf (wsV RX0 102 RX0 yX0_hemIfThen wsX0_hemIfThen) := goodIn_app (goodIn_of _ (by decide +kernel)) ggX0_plainHemOf_X0_hemIfThen
theorem dX0_plainHemOf_0 : decode cX0_plainHemOf 0 = .ok (.aload_n 0, 1) := by decide +kernel
theorem dX0_plainHemOf_1 : decode cX0_plainHemOf 1 = .ok (.iload_n 1, 1) := by decide +kernel
theorem dX0_plainHemOf_2 : decode cX0_plainHemOf 2 = .ok (.iload_n 2, 1) := by decide +kernel
theorem dX0_plainHemOf_3 : decode cX0_plainHemOf 3 = .ok (.aload_n 0, 1) := by decide +kernel
theorem dX0_plainHemOf_4 : decode cX0_plainHemOf 4 = .ok (.getfield 27, 3) := by decide +kernel
theorem dX0_plainHemOf_7 : decode cX0_plainHemOf 7 = .ok (.iload_n 2, 1) := by decide +kernel
theorem dX0_plainHemOf_8 : decode cX0_plainHemOf 8 = .ok (.invokestatic 72, 3) := by decide +kernel
theorem dX0_plainHemOf_11 : decode cX0_plainHemOf 11 = .ok (.iconst 0, 1) := by decide +kernel
theorem dX0_plainHemOf_12 : decode cX0_plainHemOf 12 = .ok (.invokevirtual 102, 3) := by decide +kernel
theorem dX0_plainHemOf_15 : decode cX0_plainHemOf 15 = .ok (.ireturn, 1) := by decide +kernel
set_option maxRecDepth 20000 in
theorem ggX0_greatestHemOf_X0_hemOf : GoodIn wsX0_greatestHemOf wsX0_hemOf := goodIn_r _ [10, 11, 12, 13, 14, 15, 16, 17, 18, 9, 19, 20, 2, 3, 4, 5, 21, 22, 23, 24, 25, 26, 27, 28, 29, 30, 31, 32, 33, 34, 35, 36, 37, 38, 39, 40, 41, 42, 43, 44, 45] (by decide +kernel) (by decide +kernel)
set_option maxRecDepth 20000 in
theorem gX0_greatestHemOf_X0_hemOf : GoodIn wsX0_greatestHemOf (wsV RX0 106 RX0 yX0_hemOf wsX0_hemOf) := goodIn_app (goodIn_of _ (by decide +kernel)) ggX0_greatestHemOf_X0_hemOf
theorem dX0_greatestHemOf_0 : decode cX0_greatestHemOf 0 = .ok (.iconst 0, 1) := by decide +kernel
theorem dX0_greatestHemOf_1 : decode cX0_greatestHemOf 1 = .ok (.istore_n 2, 1) := by decide +kernel
theorem dX0_greatestHemOf_2 : decode cX0_greatestHemOf 2 = .ok (.iconst 0, 1) := by decide +kernel
theorem dX0_greatestHemOf_3 : decode cX0_greatestHemOf 3 = .ok (.istore_n 3, 1) := by decide +kernel
theorem dX0_greatestHemOf_4 : decode cX0_greatestHemOf 4 = .ok (.iload_n 3, 1) := by decide +kernel
theorem dX0_greatestHemOf_5 : decode cX0_greatestHemOf 5 = .ok (.aload_n 0, 1) := by decide +kernel
theorem dX0_greatestHemOf_6 : decode cX0_greatestHemOf 6 = .ok (.getfield 52, 3) := by decide +kernel
theorem dX0_greatestHemOf_9 : decode cX0_greatestHemOf 9 = .ok (.if_icmp .ge 20, 3) := by decide +kernel
theorem dX0_greatestHemOf_12 : decode cX0_greatestHemOf 12 = .ok (.iload_n 2, 1) := by decide +kernel
theorem dX0_greatestHemOf_13 : decode cX0_greatestHemOf 13 = .ok (.aload_n 0, 1) := by decide +kernel
theorem dX0_greatestHemOf_14 : decode cX0_greatestHemOf 14 = .ok (.iload_n 1, 1) := by decide +kernel
theorem dX0_greatestHemOf_15 : decode cX0_greatestHemOf 15 = .ok (.iload_n 3, 1) := by decide +kernel
theorem dX0_greatestHemOf_16 : decode cX0_greatestHemOf 16 = .ok (.invokevirtual 106, 3) := by decide +kernel
theorem dX0_greatestHemOf_19 : decode cX0_greatestHemOf 19 = .ok (.invokestatic 80, 3) := by decide +kernel
theorem dX0_greatestHemOf_22 : decode cX0_greatestHemOf 22 = .ok (.istore_n 2, 1) := by decide +kernel
theorem dX0_greatestHemOf_23 : decode cX0_greatestHemOf 23 = .ok (.iinc 3 1, 3) := by decide +kernel
theorem dX0_greatestHemOf_26 : decode cX0_greatestHemOf 26 = .ok (.goto (-22), 3) := by decide +kernel
theorem dX0_greatestHemOf_29 : decode cX0_greatestHemOf 29 = .ok (.iload_n 2, 1) := by decide +kernel
theorem dX0_greatestHemOf_30 : decode cX0_greatestHemOf 30 = .ok (.ireturn, 1) := by decide +kernel
set_option maxRecDepth 20000 in
theorem ggX0_fittingHeights_X0_hemOf : GoodIn wsX0_fittingHeights wsX0_hemOf := goodIn_r _ [6, 7, 1, 8, 9, 10, 11, 12, 13, 5, 14, 15, 16, 17, 18, 19, 20, 21, 22, 23, 24, 25, 26, 27, 28, 29, 30, 31, 32, 33, 34, 35, 36, 37, 38, 39, 40, 41, 42, 43, 44] (by decide +kernel) (by decide +kernel)
set_option maxRecDepth 20000 in
theorem gX0_fittingHeights_X0_hemOf : GoodIn wsX0_fittingHeights (wsV RX0 106 RX0 yX0_hemOf wsX0_hemOf) := goodIn_app (goodIn_of _ (by decide +kernel)) ggX0_fittingHeights_X0_hemOf
set_option maxRecDepth 20000 in
theorem ggX0_fittingHeights_X5_item : GoodIn wsX0_fittingHeights wsX5_item := goodIn_r _ [10] (by decide +kernel) (by decide +kernel)
set_option maxRecDepth 20000 in
theorem gX0_fittingHeights_X5_item_n72 : GoodIn wsX0_fittingHeights (wsX5_item) := ggX0_fittingHeights_X5_item
set_option maxRecDepth 20000 in
theorem ggX0_fittingHeights_X0_hemIfThen : GoodIn wsX0_fittingHeights wsX0_hemIfThen := goodIn_r _ [14, 15, 16, 17, 18, 19, 20, 21, 8, 9, 10, 22, 23, 24, 25, 26, 27, 28, 29, 30, 31, 32, 33, 34, 35, 36, 37, 38, 39, 40, 41, 42, 43, 44] (by decide +kernel) (by decide +kernel)
set_option maxRecDepth 20000 in
theorem gX0_fittingHeights_X0_hemIfThen : GoodIn wsX0_fittingHeights (wsV RX0 102 RX0 yX0_hemIfThen wsX0_hemIfThen) := goodIn_app (goodIn_of _ (by decide +kernel)) ggX0_fittingHeights_X0_hemIfThen
theorem dX0_fittingHeights_0 : decode cX0_fittingHeights 0 = .ok (.aload_n 0, 1) := by decide +kernel
theorem dX0_fittingHeights_1 : decode cX0_fittingHeights 1 = .ok (.iload_n 1, 1) := by decide +kernel
theorem dX0_fittingHeights_2 : decode cX0_fittingHeights 2 = .ok (.iload_n 2, 1) := by decide +kernel
theorem dX0_fittingHeights_3 : decode cX0_fittingHeights 3 = .ok (.invokevirtual 106, 3) := by decide +kernel
theorem dX0_fittingHeights_6 : decode cX0_fittingHeights 6 = .ok (.istore_n 3, 1) := by decide +kernel
theorem dX0_fittingHeights_7 : decode cX0_fittingHeights 7 = .ok (.iconst 0, 1) := by decide +kernel
theorem dX0_fittingHeights_8 : decode cX0_fittingHeights 8 = .ok (.istore 4, 2) := by decide +kernel
theorem dX0_fittingHeights_10 : decode cX0_fittingHeights 10 = .ok (.iconst 0, 1) := by decide +kernel
theorem dX0_fittingHeights_11 : decode cX0_fittingHeights 11 = .ok (.istore 5, 2) := by decide +kernel
theorem dX0_fittingHeights_13 : decode cX0_fittingHeights 13 = .ok (.iload 5, 2) := by decide +kernel
theorem dX0_fittingHeights_15 : decode cX0_fittingHeights 15 = .ok (.bipush 20, 2) := by decide +kernel
theorem dX0_fittingHeights_17 : decode cX0_fittingHeights 17 = .ok (.if_icmp .gt 38, 3) := by decide +kernel
theorem dX0_fittingHeights_20 : decode cX0_fittingHeights 20 = .ok (.aload_n 0, 1) := by decide +kernel
theorem dX0_fittingHeights_21 : decode cX0_fittingHeights 21 = .ok (.iload_n 1, 1) := by decide +kernel
theorem dX0_fittingHeights_22 : decode cX0_fittingHeights 22 = .ok (.iload_n 2, 1) := by decide +kernel
theorem dX0_fittingHeights_23 : decode cX0_fittingHeights 23 = .ok (.iload 5, 2) := by decide +kernel
theorem dX0_fittingHeights_25 : decode cX0_fittingHeights 25 = .ok (.aload_n 0, 1) := by decide +kernel
theorem dX0_fittingHeights_26 : decode cX0_fittingHeights 26 = .ok (.getfield 15, 3) := by decide +kernel
theorem dX0_fittingHeights_29 : decode cX0_fittingHeights 29 = .ok (.iload_n 1, 1) := by decide +kernel
theorem dX0_fittingHeights_30 : decode cX0_fittingHeights 30 = .ok (.invokestatic 72, 3) := by decide +kernel
theorem dX0_fittingHeights_33 : decode cX0_fittingHeights 33 = .ok (.invokevirtual 102, 3) := by decide +kernel
theorem dX0_fittingHeights_36 : decode cX0_fittingHeights 36 = .ok (.iload_n 3, 1) := by decide +kernel
theorem dX0_fittingHeights_37 : decode cX0_fittingHeights 37 = .ok (.if_icmp .ne 12, 3) := by decide +kernel
theorem dX0_fittingHeights_40 : decode cX0_fittingHeights 40 = .ok (.iload 4, 2) := by decide +kernel
theorem dX0_fittingHeights_42 : decode cX0_fittingHeights 42 = .ok (.iconst 1, 1) := by decide +kernel
theorem dX0_fittingHeights_43 : decode cX0_fittingHeights 43 = .ok (.iload 5, 2) := by decide +kernel
theorem dX0_fittingHeights_45 : decode cX0_fittingHeights 45 = .ok (.ishl, 1) := by decide +kernel
theorem dX0_fittingHeights_46 : decode cX0_fittingHeights 46 = .ok (.ior, 1) := by decide +kernel
theorem dX0_fittingHeights_47 : decode cX0_fittingHeights 47 = .ok (.istore 4, 2) := by decide +kernel
theorem dX0_fittingHeights_49 : decode cX0_fittingHeights 49 = .ok (.iinc 5 1, 3) := by decide +kernel
theorem dX0_fittingHeights_52 : decode cX0_fittingHeights 52 = .ok (.goto (-39), 3) := by decide +kernel
theorem dX0_fittingHeights_55 : decode cX0_fittingHeights 55 = .ok (.iload 4, 2) := by decide +kernel
theorem dX0_fittingHeights_57 : decode cX0_fittingHeights 57 = .ok (.ireturn, 1) := by decide +kernel
set_option maxRecDepth 20000 in
theorem ggX0_knownBy_X5_hasBit : GoodIn wsX0_knownBy wsX5_hasBit := goodIn_r _ [5] (by decide +kernel) (by decide +kernel)
set_option maxRecDepth 20000 in
theorem gX0_knownBy_X5_hasBit_n110 : GoodIn wsX0_knownBy (wsX5_hasBit) := ggX0_knownBy_X5_hasBit
set_option maxRecDepth 20000 in
theorem ggX0_knownBy_X0_fittingHeights : GoodIn wsX0_knownBy wsX0_fittingHeights := goodIn_r _ [10, 11, 12, 13, 14, 9, 15, 16, 17, 4, 18, 19, 20, 21, 22, 23, 24, 25, 26, 27, 28, 29, 30, 31, 32, 33, 34, 35, 36, 37, 38, 39, 40, 41, 42, 43, 44, 45, 46, 47, 48, 49, 50, 51, 52] (by decide +kernel) (by decide +kernel)
set_option maxRecDepth 20000 in
theorem gX0_knownBy_X0_fittingHeights : GoodIn wsX0_knownBy (wsV RX0 113 RX0 yX0_fittingHeights wsX0_fittingHeights) := goodIn_app (goodIn_of _ (by decide +kernel)) ggX0_knownBy_X0_fittingHeights
theorem dX0_knownBy_0 : decode cX0_knownBy 0 = .ok (.ldc 109, 2) := by decide +kernel
theorem dX0_knownBy_2 : decode cX0_knownBy 2 = .ok (.istore_n 3, 1) := by decide +kernel
theorem dX0_knownBy_3 : decode cX0_knownBy 3 = .ok (.iconst 0, 1) := by decide +kernel
theorem dX0_knownBy_4 : decode cX0_knownBy 4 = .ok (.istore 4, 2) := by decide +kernel
theorem dX0_knownBy_6 : decode cX0_knownBy 6 = .ok (.iload 4, 2) := by decide +kernel
theorem dX0_knownBy_8 : decode cX0_knownBy 8 = .ok (.aload_n 0, 1) := by decide +kernel
theorem dX0_knownBy_9 : decode cX0_knownBy 9 = .ok (.getfield 45, 3) := by decide +kernel
theorem dX0_knownBy_12 : decode cX0_knownBy 12 = .ok (.if_icmp .ge 28, 3) := by decide +kernel
theorem dX0_knownBy_15 : decode cX0_knownBy 15 = .ok (.iload_n 1, 1) := by decide +kernel
theorem dX0_knownBy_16 : decode cX0_knownBy 16 = .ok (.iload 4, 2) := by decide +kernel
theorem dX0_knownBy_18 : decode cX0_knownBy 18 = .ok (.invokestatic 110, 3) := by decide +kernel
theorem dX0_knownBy_21 : decode cX0_knownBy 21 = .ok (.ifCond .eq 13, 3) := by decide +kernel
theorem dX0_knownBy_24 : decode cX0_knownBy 24 = .ok (.iload_n 3, 1) := by decide +kernel
theorem dX0_knownBy_25 : decode cX0_knownBy 25 = .ok (.aload_n 0, 1) := by decide +kernel
theorem dX0_knownBy_26 : decode cX0_knownBy 26 = .ok (.iload 4, 2) := by decide +kernel
theorem dX0_knownBy_28 : decode cX0_knownBy 28 = .ok (.iload_n 2, 1) := by decide +kernel
theorem dX0_knownBy_29 : decode cX0_knownBy 29 = .ok (.invokevirtual 113, 3) := by decide +kernel
theorem dX0_knownBy_32 : decode cX0_knownBy 32 = .ok (.iand, 1) := by decide +kernel
theorem dX0_knownBy_33 : decode cX0_knownBy 33 = .ok (.istore_n 3, 1) := by decide +kernel
theorem dX0_knownBy_34 : decode cX0_knownBy 34 = .ok (.iinc 4 1, 3) := by decide +kernel
theorem dX0_knownBy_37 : decode cX0_knownBy 37 = .ok (.goto (-31), 3) := by decide +kernel
theorem dX0_knownBy_40 : decode cX0_knownBy 40 = .ok (.iload_n 3, 1) := by decide +kernel
theorem dX0_knownBy_41 : decode cX0_knownBy 41 = .ok (.ireturn, 1) := by decide +kernel
set_option maxRecDepth 20000 in
theorem ggX0_note_X5_setItem : GoodIn wsX0_note wsX5_setItem := goodIn_r _ [7] (by decide +kernel) (by decide +kernel)
set_option maxRecDepth 20000 in
theorem gX0_note_X5_setItem_n68 : GoodIn wsX0_note (wsX5_setItem) := ggX0_note_X5_setItem
theorem dX0_note_0 : decode cX0_note 0 = .ok (.aload_n 0, 1) := by decide +kernel
theorem dX0_note_1 : decode cX0_note 1 = .ok (.getfield 36, 3) := by decide +kernel
theorem dX0_note_4 : decode cX0_note 4 = .ok (.aload_n 0, 1) := by decide +kernel
theorem dX0_note_5 : decode cX0_note 5 = .ok (.getfield 55, 3) := by decide +kernel
theorem dX0_note_8 : decode cX0_note 8 = .ok (.iload_n 1, 1) := by decide +kernel
theorem dX0_note_9 : decode cX0_note 9 = .ok (.invokestatic 68, 3) := by decide +kernel
theorem dX0_note_12 : decode cX0_note 12 = .ok (.aload_n 0, 1) := by decide +kernel
theorem dX0_note_13 : decode cX0_note 13 = .ok (.getfield 39, 3) := by decide +kernel
theorem dX0_note_16 : decode cX0_note 16 = .ok (.aload_n 0, 1) := by decide +kernel
theorem dX0_note_17 : decode cX0_note 17 = .ok (.getfield 55, 3) := by decide +kernel
theorem dX0_note_20 : decode cX0_note 20 = .ok (.iload_n 2, 1) := by decide +kernel
theorem dX0_note_21 : decode cX0_note 21 = .ok (.invokestatic 68, 3) := by decide +kernel
theorem dX0_note_24 : decode cX0_note 24 = .ok (.aload_n 0, 1) := by decide +kernel
theorem dX0_note_25 : decode cX0_note 25 = .ok (.getfield 42, 3) := by decide +kernel
theorem dX0_note_28 : decode cX0_note 28 = .ok (.aload_n 0, 1) := by decide +kernel
theorem dX0_note_29 : decode cX0_note 29 = .ok (.getfield 55, 3) := by decide +kernel
theorem dX0_note_32 : decode cX0_note 32 = .ok (.iload_n 3, 1) := by decide +kernel
theorem dX0_note_33 : decode cX0_note 33 = .ok (.invokestatic 68, 3) := by decide +kernel
theorem dX0_note_36 : decode cX0_note 36 = .ok (.aload_n 0, 1) := by decide +kernel
theorem dX0_note_37 : decode cX0_note 37 = .ok (.dup, 1) := by decide +kernel
theorem dX0_note_38 : decode cX0_note 38 = .ok (.getfield 55, 3) := by decide +kernel
theorem dX0_note_41 : decode cX0_note 41 = .ok (.iconst 1, 1) := by decide +kernel
theorem dX0_note_42 : decode cX0_note 42 = .ok (.iadd, 1) := by decide +kernel
theorem dX0_note_43 : decode cX0_note 43 = .ok (.putfield 55, 3) := by decide +kernel
theorem dX0_note_46 : decode cX0_note 46 = .ok (.return_, 1) := by decide +kernel
set_option maxRecDepth 20000 in
theorem ggX0_doFlood_X0_note : GoodIn wsX0_doFlood wsX0_note := goodIn_r _ [11, 12, 13, 14, 15, 16, 17, 18, 27, 28, 29, 30, 31, 32, 33, 34, 35, 36, 37, 38, 39, 40, 41] (by decide +kernel) (by decide +kernel)
set_option maxRecDepth 20000 in
theorem gX0_doFlood_X0_note : GoodIn wsX0_doFlood (wsV RX0 116 RX0 yX0_note wsX0_note) := goodIn_app (goodIn_of _ (by decide +kernel)) ggX0_doFlood_X0_note
set_option maxRecDepth 20000 in
theorem ggX0_doFlood_X5_setItem : GoodIn wsX0_doFlood wsX5_setItem := goodIn_r _ [18] (by decide +kernel) (by decide +kernel)
set_option maxRecDepth 20000 in
theorem gX0_doFlood_X5_setItem_n68 : GoodIn wsX0_doFlood (wsX5_setItem) := ggX0_doFlood_X5_setItem
set_option maxRecDepth 20000 in
theorem ggX0_doFlood_X0_groundUnder : GoodIn wsX0_doFlood wsX0_groundUnder := goodIn_r _ [22, 23, 24, 25, 17, 26, 27, 28, 29, 30, 31, 32, 33, 34, 35, 36, 37, 38, 39, 40, 41] (by decide +kernel) (by decide +kernel)
set_option maxRecDepth 20000 in
theorem gX0_doFlood_X0_groundUnder : GoodIn wsX0_doFlood (wsV RX0 76 RX0 yX0_groundUnder wsX0_groundUnder) := goodIn_app (goodIn_of _ (by decide +kernel)) ggX0_doFlood_X0_groundUnder
set_option maxRecDepth 20000 in
theorem ggX0_doFlood_X5_item : GoodIn wsX0_doFlood wsX5_item := goodIn_r _ [26] (by decide +kernel) (by decide +kernel)
set_option maxRecDepth 20000 in
theorem gX0_doFlood_X5_item_n72 : GoodIn wsX0_doFlood (wsX5_item) := ggX0_doFlood_X5_item
theorem dX0_doFlood_0 : decode cX0_doFlood 0 = .ok (.aload_n 0, 1) := by decide +kernel
theorem dX0_doFlood_1 : decode cX0_doFlood 1 = .ok (.iconst 0, 1) := by decide +kernel
theorem dX0_doFlood_2 : decode cX0_doFlood 2 = .ok (.iload_n 1, 1) := by decide +kernel
theorem dX0_doFlood_3 : decode cX0_doFlood 3 = .ok (.iconst 0, 1) := by decide +kernel
theorem dX0_doFlood_4 : decode cX0_doFlood 4 = .ok (.invokevirtual 116, 3) := by decide +kernel
theorem dX0_doFlood_7 : decode cX0_doFlood 7 = .ok (.aload_n 0, 1) := by decide +kernel
theorem dX0_doFlood_8 : decode cX0_doFlood 8 = .ok (.getfield 27, 3) := by decide +kernel
theorem dX0_doFlood_11 : decode cX0_doFlood 11 = .ok (.aload_n 0, 1) := by decide +kernel
theorem dX0_doFlood_12 : decode cX0_doFlood 12 = .ok (.getfield 52, 3) := by decide +kernel
theorem dX0_doFlood_15 : decode cX0_doFlood 15 = .ok (.iload_n 1, 1) := by decide +kernel
theorem dX0_doFlood_16 : decode cX0_doFlood 16 = .ok (.invokestatic 68, 3) := by decide +kernel
theorem dX0_doFlood_19 : decode cX0_doFlood 19 = .ok (.iconst 0, 1) := by decide +kernel
theorem dX0_doFlood_20 : decode cX0_doFlood 20 = .ok (.istore_n 2, 1) := by decide +kernel
theorem dX0_doFlood_21 : decode cX0_doFlood 21 = .ok (.iload_n 2, 1) := by decide +kernel
theorem dX0_doFlood_22 : decode cX0_doFlood 22 = .ok (.aload_n 0, 1) := by decide +kernel
theorem dX0_doFlood_23 : decode cX0_doFlood 23 = .ok (.getfield 45, 3) := by decide +kernel
theorem dX0_doFlood_26 : decode cX0_doFlood 26 = .ok (.if_icmp .ge 54, 3) := by decide +kernel
theorem dX0_doFlood_29 : decode cX0_doFlood 29 = .ok (.aload_n 0, 1) := by decide +kernel
theorem dX0_doFlood_30 : decode cX0_doFlood 30 = .ok (.getfield 30, 3) := by decide +kernel
theorem dX0_doFlood_33 : decode cX0_doFlood 33 = .ok (.aload_n 0, 1) := by decide +kernel
theorem dX0_doFlood_34 : decode cX0_doFlood 34 = .ok (.getfield 52, 3) := by decide +kernel
theorem dX0_doFlood_37 : decode cX0_doFlood 37 = .ok (.bipush 6, 2) := by decide +kernel
theorem dX0_doFlood_39 : decode cX0_doFlood 39 = .ok (.imul, 1) := by decide +kernel
theorem dX0_doFlood_40 : decode cX0_doFlood 40 = .ok (.iload_n 2, 1) := by decide +kernel
theorem dX0_doFlood_41 : decode cX0_doFlood 41 = .ok (.iadd, 1) := by decide +kernel
theorem dX0_doFlood_42 : decode cX0_doFlood 42 = .ok (.aload_n 0, 1) := by decide +kernel
theorem dX0_doFlood_43 : decode cX0_doFlood 43 = .ok (.iload_n 2, 1) := by decide +kernel
theorem dX0_doFlood_44 : decode cX0_doFlood 44 = .ok (.invokevirtual 76, 3) := by decide +kernel
theorem dX0_doFlood_47 : decode cX0_doFlood 47 = .ok (.invokestatic 68, 3) := by decide +kernel
theorem dX0_doFlood_50 : decode cX0_doFlood 50 = .ok (.aload_n 0, 1) := by decide +kernel
theorem dX0_doFlood_51 : decode cX0_doFlood 51 = .ok (.getfield 33, 3) := by decide +kernel
theorem dX0_doFlood_54 : decode cX0_doFlood 54 = .ok (.aload_n 0, 1) := by decide +kernel
theorem dX0_doFlood_55 : decode cX0_doFlood 55 = .ok (.getfield 52, 3) := by decide +kernel
theorem dX0_doFlood_58 : decode cX0_doFlood 58 = .ok (.bipush 6, 2) := by decide +kernel
theorem dX0_doFlood_60 : decode cX0_doFlood 60 = .ok (.imul, 1) := by decide +kernel
theorem dX0_doFlood_61 : decode cX0_doFlood 61 = .ok (.iload_n 2, 1) := by decide +kernel
theorem dX0_doFlood_62 : decode cX0_doFlood 62 = .ok (.iadd, 1) := by decide +kernel
theorem dX0_doFlood_63 : decode cX0_doFlood 63 = .ok (.aload_n 0, 1) := by decide +kernel
theorem dX0_doFlood_64 : decode cX0_doFlood 64 = .ok (.getfield 24, 3) := by decide +kernel
theorem dX0_doFlood_67 : decode cX0_doFlood 67 = .ok (.iload_n 2, 1) := by decide +kernel
theorem dX0_doFlood_68 : decode cX0_doFlood 68 = .ok (.invokestatic 72, 3) := by decide +kernel
theorem dX0_doFlood_71 : decode cX0_doFlood 71 = .ok (.invokestatic 68, 3) := by decide +kernel
theorem dX0_doFlood_74 : decode cX0_doFlood 74 = .ok (.iinc 2 1, 3) := by decide +kernel
theorem dX0_doFlood_77 : decode cX0_doFlood 77 = .ok (.goto (-56), 3) := by decide +kernel
theorem dX0_doFlood_80 : decode cX0_doFlood 80 = .ok (.aload_n 0, 1) := by decide +kernel
theorem dX0_doFlood_81 : decode cX0_doFlood 81 = .ok (.dup, 1) := by decide +kernel
theorem dX0_doFlood_82 : decode cX0_doFlood 82 = .ok (.getfield 52, 3) := by decide +kernel
theorem dX0_doFlood_85 : decode cX0_doFlood 85 = .ok (.iconst 1, 1) := by decide +kernel
theorem dX0_doFlood_86 : decode cX0_doFlood 86 = .ok (.iadd, 1) := by decide +kernel
theorem dX0_doFlood_87 : decode cX0_doFlood 87 = .ok (.putfield 52, 3) := by decide +kernel
theorem dX0_doFlood_90 : decode cX0_doFlood 90 = .ok (.return_, 1) := by decide +kernel
set_option maxRecDepth 20000 in
theorem ggX0_doMove_X5_item : GoodIn wsX0_doMove wsX5_item := goodIn_r _ [4] (by decide +kernel) (by decide +kernel)
set_option maxRecDepth 20000 in
theorem gX0_doMove_X5_item_n72 : GoodIn wsX0_doMove (wsX5_item) := ggX0_doMove_X5_item
set_option maxRecDepth 20000 in
theorem ggX0_doMove_X0_note : GoodIn wsX0_doMove wsX0_note := goodIn_r _ [9, 10, 11, 12, 13, 14, 3, 15, 16, 17, 18, 19, 20, 21, 22, 23, 24, 25, 26, 27, 28, 29, 30] (by decide +kernel) (by decide +kernel)
set_option maxRecDepth 20000 in
theorem gX0_doMove_X0_note : GoodIn wsX0_doMove (wsV RX0 116 RX0 yX0_note wsX0_note) := goodIn_app (goodIn_of _ (by decide +kernel)) ggX0_doMove_X0_note
set_option maxRecDepth 20000 in
theorem ggX0_doMove_X5_setItem : GoodIn wsX0_doMove wsX5_setItem := goodIn_r _ [15] (by decide +kernel) (by decide +kernel)
set_option maxRecDepth 20000 in
theorem gX0_doMove_X5_setItem_n68 : GoodIn wsX0_doMove (wsX5_setItem) := ggX0_doMove_X5_setItem
theorem dX0_doMove_0 : decode cX0_doMove 0 = .ok (.aload_n 0, 1) := by decide +kernel
theorem dX0_doMove_1 : decode cX0_doMove 1 = .ok (.iconst 1, 1) := by decide +kernel
theorem dX0_doMove_2 : decode cX0_doMove 2 = .ok (.iload_n 1, 1) := by decide +kernel
theorem dX0_doMove_3 : decode cX0_doMove 3 = .ok (.aload_n 0, 1) := by decide +kernel
theorem dX0_doMove_4 : decode cX0_doMove 4 = .ok (.getfield 18, 3) := by decide +kernel
theorem dX0_doMove_7 : decode cX0_doMove 7 = .ok (.iload_n 1, 1) := by decide +kernel
theorem dX0_doMove_8 : decode cX0_doMove 8 = .ok (.invokestatic 72, 3) := by decide +kernel
theorem dX0_doMove_11 : decode cX0_doMove 11 = .ok (.invokevirtual 116, 3) := by decide +kernel
theorem dX0_doMove_14 : decode cX0_doMove 14 = .ok (.aload_n 0, 1) := by decide +kernel
theorem dX0_doMove_15 : decode cX0_doMove 15 = .ok (.getfield 18, 3) := by decide +kernel
theorem dX0_doMove_18 : decode cX0_doMove 18 = .ok (.iload_n 1, 1) := by decide +kernel
theorem dX0_doMove_19 : decode cX0_doMove 19 = .ok (.iload_n 2, 1) := by decide +kernel
theorem dX0_doMove_20 : decode cX0_doMove 20 = .ok (.invokestatic 68, 3) := by decide +kernel
theorem dX0_doMove_23 : decode cX0_doMove 23 = .ok (.return_, 1) := by decide +kernel
set_option maxRecDepth 20000 in
theorem ggX0_doDyke_X5_item : GoodIn wsX0_doDyke wsX5_item := goodIn_r _ [5] (by decide +kernel) (by decide +kernel)
set_option maxRecDepth 20000 in
theorem gX0_doDyke_X5_item_n72 : GoodIn wsX0_doDyke (wsX5_item) := ggX0_doDyke_X5_item
set_option maxRecDepth 20000 in
theorem ggX0_doDyke_X0_note : GoodIn wsX0_doDyke wsX0_note := goodIn_r _ [10, 11, 12, 13, 14, 15, 4, 16, 17, 18, 19, 20, 21, 22, 23, 24, 25, 26, 27, 28, 29, 30, 31] (by decide +kernel) (by decide +kernel)
set_option maxRecDepth 20000 in
theorem gX0_doDyke_X0_note : GoodIn wsX0_doDyke (wsV RX0 116 RX0 yX0_note wsX0_note) := goodIn_app (goodIn_of _ (by decide +kernel)) ggX0_doDyke_X0_note
set_option maxRecDepth 20000 in
theorem ggX0_doDyke_X5_setItem : GoodIn wsX0_doDyke wsX5_setItem := goodIn_r _ [16] (by decide +kernel) (by decide +kernel)
set_option maxRecDepth 20000 in
theorem gX0_doDyke_X5_setItem_n68 : GoodIn wsX0_doDyke (wsX5_setItem) := ggX0_doDyke_X5_setItem
theorem dX0_doDyke_0 : decode cX0_doDyke 0 = .ok (.aload_n 0, 1) := by decide +kernel
theorem dX0_doDyke_1 : decode cX0_doDyke 1 = .ok (.iconst 2, 1) := by decide +kernel
theorem dX0_doDyke_2 : decode cX0_doDyke 2 = .ok (.iload_n 1, 1) := by decide +kernel
theorem dX0_doDyke_3 : decode cX0_doDyke 3 = .ok (.aload_n 0, 1) := by decide +kernel
theorem dX0_doDyke_4 : decode cX0_doDyke 4 = .ok (.getfield 9, 3) := by decide +kernel
theorem dX0_doDyke_7 : decode cX0_doDyke 7 = .ok (.iload_n 1, 1) := by decide +kernel
theorem dX0_doDyke_8 : decode cX0_doDyke 8 = .ok (.invokestatic 72, 3) := by decide +kernel
theorem dX0_doDyke_11 : decode cX0_doDyke 11 = .ok (.invokevirtual 116, 3) := by decide +kernel
theorem dX0_doDyke_14 : decode cX0_doDyke 14 = .ok (.aload_n 0, 1) := by decide +kernel
theorem dX0_doDyke_15 : decode cX0_doDyke 15 = .ok (.getfield 9, 3) := by decide +kernel
theorem dX0_doDyke_18 : decode cX0_doDyke 18 = .ok (.iload_n 1, 1) := by decide +kernel
theorem dX0_doDyke_19 : decode cX0_doDyke 19 = .ok (.aload_n 0, 1) := by decide +kernel
theorem dX0_doDyke_20 : decode cX0_doDyke 20 = .ok (.getfield 9, 3) := by decide +kernel
theorem dX0_doDyke_23 : decode cX0_doDyke 23 = .ok (.iload_n 1, 1) := by decide +kernel
theorem dX0_doDyke_24 : decode cX0_doDyke 24 = .ok (.invokestatic 72, 3) := by decide +kernel
theorem dX0_doDyke_27 : decode cX0_doDyke 27 = .ok (.iconst 1, 1) := by decide +kernel
theorem dX0_doDyke_28 : decode cX0_doDyke 28 = .ok (.iadd, 1) := by decide +kernel
theorem dX0_doDyke_29 : decode cX0_doDyke 29 = .ok (.invokestatic 68, 3) := by decide +kernel
theorem dX0_doDyke_32 : decode cX0_doDyke 32 = .ok (.aload_n 0, 1) := by decide +kernel
theorem dX0_doDyke_33 : decode cX0_doDyke 33 = .ok (.dup, 1) := by decide +kernel
theorem dX0_doDyke_34 : decode cX0_doDyke 34 = .ok (.getfield 49, 3) := by decide +kernel
theorem dX0_doDyke_37 : decode cX0_doDyke 37 = .ok (.iconst 1, 1) := by decide +kernel
theorem dX0_doDyke_38 : decode cX0_doDyke 38 = .ok (.isub, 1) := by decide +kernel
theorem dX0_doDyke_39 : decode cX0_doDyke 39 = .ok (.putfield 49, 3) := by decide +kernel
theorem dX0_doDyke_42 : decode cX0_doDyke 42 = .ok (.return_, 1) := by decide +kernel
set_option maxRecDepth 20000 in
theorem ggX0_doTuck_X5_item : GoodIn wsX0_doTuck wsX5_item := goodIn_r _ [4] (by decide +kernel) (by decide +kernel)
set_option maxRecDepth 20000 in
theorem gX0_doTuck_X5_item_n72 : GoodIn wsX0_doTuck (wsX5_item) := ggX0_doTuck_X5_item
set_option maxRecDepth 20000 in
theorem ggX0_doTuck_X0_note : GoodIn wsX0_doTuck wsX0_note := goodIn_r _ [9, 10, 11, 12, 13, 14, 3, 15, 16, 17, 18, 19, 20, 21, 22, 23, 24, 25, 26, 27, 28, 29, 30] (by decide +kernel) (by decide +kernel)
set_option maxRecDepth 20000 in
theorem gX0_doTuck_X0_note : GoodIn wsX0_doTuck (wsV RX0 116 RX0 yX0_note wsX0_note) := goodIn_app (goodIn_of _ (by decide +kernel)) ggX0_doTuck_X0_note
set_option maxRecDepth 20000 in
theorem ggX0_doTuck_X5_setItem : GoodIn wsX0_doTuck wsX5_setItem := goodIn_r _ [15] (by decide +kernel) (by decide +kernel)
set_option maxRecDepth 20000 in
theorem gX0_doTuck_X5_setItem_n68 : GoodIn wsX0_doTuck (wsX5_setItem) := ggX0_doTuck_X5_setItem
theorem dX0_doTuck_0 : decode cX0_doTuck 0 = .ok (.aload_n 0, 1) := by decide +kernel
theorem dX0_doTuck_1 : decode cX0_doTuck 1 = .ok (.iconst 3, 1) := by decide +kernel
theorem dX0_doTuck_2 : decode cX0_doTuck 2 = .ok (.iload_n 1, 1) := by decide +kernel
theorem dX0_doTuck_3 : decode cX0_doTuck 3 = .ok (.aload_n 0, 1) := by decide +kernel
theorem dX0_doTuck_4 : decode cX0_doTuck 4 = .ok (.getfield 24, 3) := by decide +kernel
theorem dX0_doTuck_7 : decode cX0_doTuck 7 = .ok (.iload_n 1, 1) := by decide +kernel
theorem dX0_doTuck_8 : decode cX0_doTuck 8 = .ok (.invokestatic 72, 3) := by decide +kernel
theorem dX0_doTuck_11 : decode cX0_doTuck 11 = .ok (.invokevirtual 116, 3) := by decide +kernel
theorem dX0_doTuck_14 : decode cX0_doTuck 14 = .ok (.aload_n 0, 1) := by decide +kernel
theorem dX0_doTuck_15 : decode cX0_doTuck 15 = .ok (.getfield 24, 3) := by decide +kernel
theorem dX0_doTuck_18 : decode cX0_doTuck 18 = .ok (.iload_n 1, 1) := by decide +kernel
theorem dX0_doTuck_19 : decode cX0_doTuck 19 = .ok (.aload_n 0, 1) := by decide +kernel
theorem dX0_doTuck_20 : decode cX0_doTuck 20 = .ok (.getfield 24, 3) := by decide +kernel
theorem dX0_doTuck_23 : decode cX0_doTuck 23 = .ok (.iload_n 1, 1) := by decide +kernel
theorem dX0_doTuck_24 : decode cX0_doTuck 24 = .ok (.invokestatic 72, 3) := by decide +kernel
theorem dX0_doTuck_27 : decode cX0_doTuck 27 = .ok (.iconst 1, 1) := by decide +kernel
theorem dX0_doTuck_28 : decode cX0_doTuck 28 = .ok (.iadd, 1) := by decide +kernel
theorem dX0_doTuck_29 : decode cX0_doTuck 29 = .ok (.invokestatic 68, 3) := by decide +kernel
theorem dX0_doTuck_32 : decode cX0_doTuck 32 = .ok (.return_, 1) := by decide +kernel
set_option maxRecDepth 20000 in
theorem ggX0_undoLast_X5_item : GoodIn wsX0_undoLast wsX5_item := goodIn_r _ [12] (by decide +kernel) (by decide +kernel)
set_option maxRecDepth 20000 in
theorem gX0_undoLast_X5_item_n72 : GoodIn wsX0_undoLast (wsX5_item) := ggX0_undoLast_X5_item
set_option maxRecDepth 20000 in
theorem ggX0_undoLast_X5_setItem : GoodIn wsX0_undoLast wsX5_setItem := goodIn_r _ [14] (by decide +kernel) (by decide +kernel)
set_option maxRecDepth 20000 in
theorem gX0_undoLast_X5_setItem_n68 : GoodIn wsX0_undoLast (wsX5_setItem) := ggX0_undoLast_X5_setItem
theorem dX0_undoLast_0 : decode cX0_undoLast 0 = .ok (.aload_n 0, 1) := by decide +kernel
theorem dX0_undoLast_1 : decode cX0_undoLast 1 = .ok (.getfield 55, 3) := by decide +kernel
theorem dX0_undoLast_4 : decode cX0_undoLast 4 = .ok (.ifCond .gt 4, 3) := by decide +kernel
theorem dX0_undoLast_7 : decode cX0_undoLast 7 = .ok (.return_, 1) := by decide +kernel
theorem dX0_undoLast_8 : decode cX0_undoLast 8 = .ok (.aload_n 0, 1) := by decide +kernel
theorem dX0_undoLast_9 : decode cX0_undoLast 9 = .ok (.dup, 1) := by decide +kernel
theorem dX0_undoLast_10 : decode cX0_undoLast 10 = .ok (.getfield 55, 3) := by decide +kernel
theorem dX0_undoLast_13 : decode cX0_undoLast 13 = .ok (.iconst 1, 1) := by decide +kernel
theorem dX0_undoLast_14 : decode cX0_undoLast 14 = .ok (.isub, 1) := by decide +kernel
theorem dX0_undoLast_15 : decode cX0_undoLast 15 = .ok (.putfield 55, 3) := by decide +kernel
theorem dX0_undoLast_18 : decode cX0_undoLast 18 = .ok (.aload_n 0, 1) := by decide +kernel
theorem dX0_undoLast_19 : decode cX0_undoLast 19 = .ok (.getfield 39, 3) := by decide +kernel
theorem dX0_undoLast_22 : decode cX0_undoLast 22 = .ok (.aload_n 0, 1) := by decide +kernel
theorem dX0_undoLast_23 : decode cX0_undoLast 23 = .ok (.getfield 55, 3) := by decide +kernel
theorem dX0_undoLast_26 : decode cX0_undoLast 26 = .ok (.invokestatic 72, 3) := by decide +kernel
theorem dX0_undoLast_29 : decode cX0_undoLast 29 = .ok (.istore_n 1, 1) := by decide +kernel
theorem dX0_undoLast_30 : decode cX0_undoLast 30 = .ok (.aload_n 0, 1) := by decide +kernel
theorem dX0_undoLast_31 : decode cX0_undoLast 31 = .ok (.getfield 42, 3) := by decide +kernel
theorem dX0_undoLast_34 : decode cX0_undoLast 34 = .ok (.aload_n 0, 1) := by decide +kernel
theorem dX0_undoLast_35 : decode cX0_undoLast 35 = .ok (.getfield 55, 3) := by decide +kernel
theorem dX0_undoLast_38 : decode cX0_undoLast 38 = .ok (.invokestatic 72, 3) := by decide +kernel
theorem dX0_undoLast_41 : decode cX0_undoLast 41 = .ok (.istore_n 2, 1) := by decide +kernel
theorem dX0_undoLast_42 : decode cX0_undoLast 42 = .ok (.aload_n 0, 1) := by decide +kernel
theorem dX0_undoLast_43 : decode cX0_undoLast 43 = .ok (.getfield 36, 3) := by decide +kernel
theorem dX0_undoLast_46 : decode cX0_undoLast 46 = .ok (.aload_n 0, 1) := by decide +kernel
theorem dX0_undoLast_47 : decode cX0_undoLast 47 = .ok (.getfield 55, 3) := by decide +kernel
theorem dX0_undoLast_50 : decode cX0_undoLast 50 = .ok (.invokestatic 72, 3) := by decide +kernel
theorem dX0_undoLast_53 : decode cX0_undoLast 53 = .ok (.tableswitch 74 0 2 #[27, 40, 52], 27) := by decide +kernel
theorem dX0_undoLast_80 : decode cX0_undoLast 80 = .ok (.aload_n 0, 1) := by decide +kernel
theorem dX0_undoLast_81 : decode cX0_undoLast 81 = .ok (.dup, 1) := by decide +kernel
theorem dX0_undoLast_82 : decode cX0_undoLast 82 = .ok (.getfield 52, 3) := by decide +kernel
theorem dX0_undoLast_85 : decode cX0_undoLast 85 = .ok (.iconst 1, 1) := by decide +kernel
theorem dX0_undoLast_86 : decode cX0_undoLast 86 = .ok (.isub, 1) := by decide +kernel
theorem dX0_undoLast_87 : decode cX0_undoLast 87 = .ok (.putfield 52, 3) := by decide +kernel
theorem dX0_undoLast_90 : decode cX0_undoLast 90 = .ok (.goto 46, 3) := by decide +kernel
theorem dX0_undoLast_93 : decode cX0_undoLast 93 = .ok (.aload_n 0, 1) := by decide +kernel
theorem dX0_undoLast_94 : decode cX0_undoLast 94 = .ok (.getfield 18, 3) := by decide +kernel
theorem dX0_undoLast_97 : decode cX0_undoLast 97 = .ok (.iload_n 1, 1) := by decide +kernel
theorem dX0_undoLast_98 : decode cX0_undoLast 98 = .ok (.iload_n 2, 1) := by decide +kernel
theorem dX0_undoLast_99 : decode cX0_undoLast 99 = .ok (.invokestatic 68, 3) := by decide +kernel
theorem dX0_undoLast_102 : decode cX0_undoLast 102 = .ok (.goto 34, 3) := by decide +kernel
theorem dX0_undoLast_105 : decode cX0_undoLast 105 = .ok (.aload_n 0, 1) := by decide +kernel
theorem dX0_undoLast_106 : decode cX0_undoLast 106 = .ok (.getfield 9, 3) := by decide +kernel
theorem dX0_undoLast_109 : decode cX0_undoLast 109 = .ok (.iload_n 1, 1) := by decide +kernel
theorem dX0_undoLast_110 : decode cX0_undoLast 110 = .ok (.iload_n 2, 1) := by decide +kernel
theorem dX0_undoLast_111 : decode cX0_undoLast 111 = .ok (.invokestatic 68, 3) := by decide +kernel
theorem dX0_undoLast_114 : decode cX0_undoLast 114 = .ok (.aload_n 0, 1) := by decide +kernel
theorem dX0_undoLast_115 : decode cX0_undoLast 115 = .ok (.dup, 1) := by decide +kernel
theorem dX0_undoLast_116 : decode cX0_undoLast 116 = .ok (.getfield 49, 3) := by decide +kernel
theorem dX0_undoLast_119 : decode cX0_undoLast 119 = .ok (.iconst 1, 1) := by decide +kernel
theorem dX0_undoLast_120 : decode cX0_undoLast 120 = .ok (.iadd, 1) := by decide +kernel
theorem dX0_undoLast_121 : decode cX0_undoLast 121 = .ok (.putfield 49, 3) := by decide +kernel
theorem dX0_undoLast_124 : decode cX0_undoLast 124 = .ok (.goto 12, 3) := by decide +kernel
theorem dX0_undoLast_127 : decode cX0_undoLast 127 = .ok (.aload_n 0, 1) := by decide +kernel
theorem dX0_undoLast_128 : decode cX0_undoLast 128 = .ok (.getfield 24, 3) := by decide +kernel
theorem dX0_undoLast_131 : decode cX0_undoLast 131 = .ok (.iload_n 1, 1) := by decide +kernel
theorem dX0_undoLast_132 : decode cX0_undoLast 132 = .ok (.iload_n 2, 1) := by decide +kernel
theorem dX0_undoLast_133 : decode cX0_undoLast 133 = .ok (.invokestatic 68, 3) := by decide +kernel
theorem dX0_undoLast_136 : decode cX0_undoLast 136 = .ok (.return_, 1) := by decide +kernel
