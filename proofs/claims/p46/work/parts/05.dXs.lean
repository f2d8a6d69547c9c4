theorem dX2_byLetter_0 : decode cX2_byLetter 0 = .ok (.iload_n 0, 1) := by decide +kernel
theorem dX2_byLetter_1 : decode cX2_byLetter 1 = .ok (.lookupswitch 71 #[(97, 69), (98, 61), (103, 67), (108, 63), (118, 65), (119, 59)], 59) := by decide +kernel
theorem dX2_byLetter_60 : decode cX2_byLetter 60 = .ok (.iconst 0, 1) := by decide +kernel
theorem dX2_byLetter_61 : decode cX2_byLetter 61 = .ok (.ireturn, 1) := by decide +kernel
theorem dX2_byLetter_62 : decode cX2_byLetter 62 = .ok (.iconst 1, 1) := by decide +kernel
theorem dX2_byLetter_63 : decode cX2_byLetter 63 = .ok (.ireturn, 1) := by decide +kernel
theorem dX2_byLetter_64 : decode cX2_byLetter 64 = .ok (.iconst 2, 1) := by decide +kernel
theorem dX2_byLetter_65 : decode cX2_byLetter 65 = .ok (.ireturn, 1) := by decide +kernel
theorem dX2_byLetter_66 : decode cX2_byLetter 66 = .ok (.iconst 3, 1) := by decide +kernel
theorem dX2_byLetter_67 : decode cX2_byLetter 67 = .ok (.ireturn, 1) := by decide +kernel
theorem dX2_byLetter_68 : decode cX2_byLetter 68 = .ok (.iconst 4, 1) := by decide +kernel
theorem dX2_byLetter_69 : decode cX2_byLetter 69 = .ok (.ireturn, 1) := by decide +kernel
theorem dX2_byLetter_70 : decode cX2_byLetter 70 = .ok (.iconst 5, 1) := by decide +kernel
theorem dX2_byLetter_71 : decode cX2_byLetter 71 = .ok (.ireturn, 1) := by decide +kernel
theorem dX2_byLetter_72 : decode cX2_byLetter 72 = .ok (.bipush (-9), 2) := by decide +kernel
theorem dX2_byLetter_74 : decode cX2_byLetter 74 = .ok (.ireturn, 1) := by decide +kernel
theorem dX2_isOf_0 : decode cX2_isOf 0 = .ok (.iload_n 1, 1) := by decide +kernel
theorem dX2_isOf_1 : decode cX2_isOf 1 = .ok (.tableswitch 61 0 2 #[27, 29, 45], 27) := by decide +kernel
theorem dX2_isOf_28 : decode cX2_isOf 28 = .ok (.iconst 1, 1) := by decide +kernel
theorem dX2_isOf_29 : decode cX2_isOf 29 = .ok (.ireturn, 1) := by decide +kernel
theorem dX2_isOf_30 : decode cX2_isOf 30 = .ok (.iload_n 0, 1) := by decide +kernel
theorem dX2_isOf_31 : decode cX2_isOf 31 = .ok (.iconst 1, 1) := by decide +kernel
theorem dX2_isOf_32 : decode cX2_isOf 32 = .ok (.if_icmp .eq 8, 3) := by decide +kernel
theorem dX2_isOf_35 : decode cX2_isOf 35 = .ok (.iload_n 0, 1) := by decide +kernel
theorem dX2_isOf_36 : decode cX2_isOf 36 = .ok (.iconst 4, 1) := by decide +kernel
theorem dX2_isOf_37 : decode cX2_isOf 37 = .ok (.if_icmp .ne 7, 3) := by decide +kernel
theorem dX2_isOf_40 : decode cX2_isOf 40 = .ok (.iconst 1, 1) := by decide +kernel
theorem dX2_isOf_41 : decode cX2_isOf 41 = .ok (.goto 4, 3) := by decide +kernel
theorem dX2_isOf_44 : decode cX2_isOf 44 = .ok (.iconst 0, 1) := by decide +kernel
theorem dX2_isOf_45 : decode cX2_isOf 45 = .ok (.ireturn, 1) := by decide +kernel
theorem dX2_isOf_46 : decode cX2_isOf 46 = .ok (.iload_n 0, 1) := by decide +kernel
theorem dX2_isOf_47 : decode cX2_isOf 47 = .ok (.iconst 2, 1) := by decide +kernel
theorem dX2_isOf_48 : decode cX2_isOf 48 = .ok (.if_icmp .eq 8, 3) := by decide +kernel
theorem dX2_isOf_51 : decode cX2_isOf 51 = .ok (.iload_n 0, 1) := by decide +kernel
theorem dX2_isOf_52 : decode cX2_isOf 52 = .ok (.iconst 5, 1) := by decide +kernel
theorem dX2_isOf_53 : decode cX2_isOf 53 = .ok (.if_icmp .ne 7, 3) := by decide +kernel
theorem dX2_isOf_56 : decode cX2_isOf 56 = .ok (.iconst 1, 1) := by decide +kernel
theorem dX2_isOf_57 : decode cX2_isOf 57 = .ok (.goto 4, 3) := by decide +kernel
theorem dX2_isOf_60 : decode cX2_isOf 60 = .ok (.iconst 0, 1) := by decide +kernel
theorem dX2_isOf_61 : decode cX2_isOf 61 = .ok (.ireturn, 1) := by decide +kernel
theorem dX2_isOf_62 : decode cX2_isOf 62 = .ok (.iload_n 0, 1) := by decide +kernel
theorem dX2_isOf_63 : decode cX2_isOf 63 = .ok (.iload_n 1, 1) := by decide +kernel
theorem dX2_isOf_64 : decode cX2_isOf 64 = .ok (.if_icmp .ne 7, 3) := by decide +kernel
theorem dX2_isOf_67 : decode cX2_isOf 67 = .ok (.iconst 1, 1) := by decide +kernel
theorem dX2_isOf_68 : decode cX2_isOf 68 = .ok (.goto 4, 3) := by decide +kernel
theorem dX2_isOf_71 : decode cX2_isOf 71 = .ok (.iconst 0, 1) := by decide +kernel
theorem dX2_isOf_72 : decode cX2_isOf 72 = .ok (.ireturn, 1) := by decide +kernel
theorem dX2_hemBy_0 : decode cX2_hemBy 0 = .ok (.iload_n 1, 1) := by decide +kernel
theorem dX2_hemBy_1 : decode cX2_hemBy 1 = .ok (.iload_n 2, 1) := by decide +kernel
theorem dX2_hemBy_2 : decode cX2_hemBy 2 = .ok (.invokestatic 9, 3) := by decide +kernel
theorem dX2_hemBy_5 : decode cX2_hemBy 5 = .ok (.istore 5, 2) := by decide +kernel
theorem dX2_hemBy_7 : decode cX2_hemBy 7 = .ok (.iload_n 0, 1) := by decide +kernel
theorem dX2_hemBy_8 : decode cX2_hemBy 8 = .ok (.tableswitch 91 1 5 #[36, 52, 82, 43, 61], 36) := by decide +kernel
theorem dX2_hemBy_44 : decode cX2_hemBy 44 = .ok (.iconst 2, 1) := by decide +kernel
theorem dX2_hemBy_45 : decode cX2_hemBy 45 = .ok (.iload 5, 2) := by decide +kernel
theorem dX2_hemBy_47 : decode cX2_hemBy 47 = .ok (.invokestatic 17, 3) := by decide +kernel
theorem dX2_hemBy_50 : decode cX2_hemBy 50 = .ok (.ireturn, 1) := by decide +kernel
theorem dX2_hemBy_51 : decode cX2_hemBy 51 = .ok (.iconst 2, 1) := by decide +kernel
theorem dX2_hemBy_52 : decode cX2_hemBy 52 = .ok (.iload 5, 2) := by decide +kernel
theorem dX2_hemBy_54 : decode cX2_hemBy 54 = .ok (.invokestatic 17, 3) := by decide +kernel
theorem dX2_hemBy_57 : decode cX2_hemBy 57 = .ok (.iconst 1, 1) := by decide +kernel
theorem dX2_hemBy_58 : decode cX2_hemBy 58 = .ok (.iadd, 1) := by decide +kernel
theorem dX2_hemBy_59 : decode cX2_hemBy 59 = .ok (.ireturn, 1) := by decide +kernel
theorem dX2_hemBy_60 : decode cX2_hemBy 60 = .ok (.iconst 0, 1) := by decide +kernel
theorem dX2_hemBy_61 : decode cX2_hemBy 61 = .ok (.iload 5, 2) := by decide +kernel
theorem dX2_hemBy_63 : decode cX2_hemBy 63 = .ok (.iload_n 3, 1) := by decide +kernel
theorem dX2_hemBy_64 : decode cX2_hemBy 64 = .ok (.isub, 1) := by decide +kernel
theorem dX2_hemBy_65 : decode cX2_hemBy 65 = .ok (.invokestatic 17, 3) := by decide +kernel
theorem dX2_hemBy_68 : decode cX2_hemBy 68 = .ok (.ireturn, 1) := by decide +kernel
theorem dX2_hemBy_69 : decode cX2_hemBy 69 = .ok (.iload 4, 2) := by decide +kernel
theorem dX2_hemBy_71 : decode cX2_hemBy 71 = .ok (.iconst 1, 1) := by decide +kernel
theorem dX2_hemBy_72 : decode cX2_hemBy 72 = .ok (.iand, 1) := by decide +kernel
theorem dX2_hemBy_73 : decode cX2_hemBy 73 = .ok (.ifCond .ne 8, 3) := by decide +kernel
theorem dX2_hemBy_76 : decode cX2_hemBy 76 = .ok (.iload 5, 2) := by decide +kernel
theorem dX2_hemBy_78 : decode cX2_hemBy 78 = .ok (.goto 11, 3) := by decide +kernel
theorem dX2_hemBy_81 : decode cX2_hemBy 81 = .ok (.iconst 0, 1) := by decide +kernel
theorem dX2_hemBy_82 : decode cX2_hemBy 82 = .ok (.iload 5, 2) := by decide +kernel
theorem dX2_hemBy_84 : decode cX2_hemBy 84 = .ok (.iload_n 3, 1) := by decide +kernel
theorem dX2_hemBy_85 : decode cX2_hemBy 85 = .ok (.isub, 1) := by decide +kernel
theorem dX2_hemBy_86 : decode cX2_hemBy 86 = .ok (.invokestatic 17, 3) := by decide +kernel
theorem dX2_hemBy_89 : decode cX2_hemBy 89 = .ok (.ireturn, 1) := by decide +kernel
theorem dX2_hemBy_90 : decode cX2_hemBy 90 = .ok (.iload 5, 2) := by decide +kernel
theorem dX2_hemBy_92 : decode cX2_hemBy 92 = .ok (.iload_n 2, 1) := by decide +kernel
theorem dX2_hemBy_93 : decode cX2_hemBy 93 = .ok (.iconst 2, 1) := by decide +kernel
theorem dX2_hemBy_94 : decode cX2_hemBy 94 = .ok (.idiv, 1) := by decide +kernel
theorem dX2_hemBy_95 : decode cX2_hemBy 95 = .ok (.invokestatic 9, 3) := by decide +kernel
theorem dX2_hemBy_98 : decode cX2_hemBy 98 = .ok (.ireturn, 1) := by decide +kernel
theorem dX2_hemBy_99 : decode cX2_hemBy 99 = .ok (.iload 5, 2) := by decide +kernel
theorem dX2_hemBy_101 : decode cX2_hemBy 101 = .ok (.ireturn, 1) := by decide +kernel
theorem dX2_markOf_0 : decode cX2_markOf 0 = .ok (.iload_n 0, 1) := by decide +kernel
theorem dX2_markOf_1 : decode cX2_markOf 1 = .ok (.tableswitch 57 1 4 #[31, 42, 45, 55], 31) := by decide +kernel
theorem dX2_markOf_32 : decode cX2_markOf 32 = .ok (.iload_n 1, 1) := by decide +kernel
theorem dX2_markOf_33 : decode cX2_markOf 33 = .ok (.iconst 2, 1) := by decide +kernel
theorem dX2_markOf_34 : decode cX2_markOf 34 = .ok (.if_icmp .lt 7, 3) := by decide +kernel
theorem dX2_markOf_37 : decode cX2_markOf 37 = .ok (.iconst 1, 1) := by decide +kernel
theorem dX2_markOf_38 : decode cX2_markOf 38 = .ok (.goto 4, 3) := by decide +kernel
theorem dX2_markOf_41 : decode cX2_markOf 41 = .ok (.iconst 0, 1) := by decide +kernel
theorem dX2_markOf_42 : decode cX2_markOf 42 = .ok (.ireturn, 1) := by decide +kernel
theorem dX2_markOf_43 : decode cX2_markOf 43 = .ok (.iload_n 1, 1) := by decide +kernel
theorem dX2_markOf_44 : decode cX2_markOf 44 = .ok (.ineg, 1) := by decide +kernel
theorem dX2_markOf_45 : decode cX2_markOf 45 = .ok (.ireturn, 1) := by decide +kernel
theorem dX2_markOf_46 : decode cX2_markOf 46 = .ok (.iload_n 1, 1) := by decide +kernel
theorem dX2_markOf_47 : decode cX2_markOf 47 = .ok (.ifCond .ge 7, 3) := by decide +kernel
theorem dX2_markOf_50 : decode cX2_markOf 50 = .ok (.iconst 1, 1) := by decide +kernel
theorem dX2_markOf_51 : decode cX2_markOf 51 = .ok (.goto 4, 3) := by decide +kernel
theorem dX2_markOf_54 : decode cX2_markOf 54 = .ok (.iconst 0, 1) := by decide +kernel
theorem dX2_markOf_55 : decode cX2_markOf 55 = .ok (.ireturn, 1) := by decide +kernel
theorem dX2_markOf_56 : decode cX2_markOf 56 = .ok (.iload_n 1, 1) := by decide +kernel
theorem dX2_markOf_57 : decode cX2_markOf 57 = .ok (.ireturn, 1) := by decide +kernel
theorem dX2_markOf_58 : decode cX2_markOf 58 = .ok (.iconst 0, 1) := by decide +kernel
theorem dX2_markOf_59 : decode cX2_markOf 59 = .ok (.ireturn, 1) := by decide +kernel
set_option maxRecDepth 20000 in
theorem ggX4_init_J7_fill_53178 : GoodIn wsX4_init wsJ7_fill_53178 := goodIn_r _ [9] (by decide +kernel) (by decide +kernel)
set_option maxRecDepth 20000 in
theorem gX4_init_J7_fill_53178 : GoodIn wsX4_init (va_wsS RX4 19 yJ7_fill_53178 wsJ7_fill_53178) := goodIn_app (goodIn_of _ (by decide +kernel)) ggX4_init_J7_fill_53178
theorem dX4_init_0 : decode cX4_init 0 = .ok (.aload_n 0, 1) := by decide +kernel
theorem dX4_init_1 : decode cX4_init 1 = .ok (.invokespecial 3, 3) := by decide +kernel
theorem dX4_init_4 : decode cX4_init 4 = .ok (.aload_n 0, 1) := by decide +kernel
theorem dX4_init_5 : decode cX4_init 5 = .ok (.aload_n 1, 1) := by decide +kernel
theorem dX4_init_6 : decode cX4_init 6 = .ok (.putfield 9, 3) := by decide +kernel
theorem dX4_init_9 : decode cX4_init 9 = .ok (.aload_n 0, 1) := by decide +kernel
theorem dX4_init_10 : decode cX4_init 10 = .ok (.aload_n 2, 1) := by decide +kernel
theorem dX4_init_11 : decode cX4_init 11 = .ok (.putfield 15, 3) := by decide +kernel
theorem dX4_init_14 : decode cX4_init 14 = .ok (.aload_n 1, 1) := by decide +kernel
theorem dX4_init_15 : decode cX4_init 15 = .ok (.iconst (-1), 1) := by decide +kernel
theorem dX4_init_16 : decode cX4_init 16 = .ok (.invokestatic 19, 3) := by decide +kernel
theorem dX4_init_19 : decode cX4_init 19 = .ok (.return_, 1) := by decide +kernel
theorem dX4_isNumber_0 : decode cX4_isNumber 0 = .ok (.iload_n 1, 1) := by decide +kernel
theorem dX4_isNumber_1 : decode cX4_isNumber 1 = .ok (.ifCond .lt 25, 3) := by decide +kernel
theorem dX4_isNumber_4 : decode cX4_isNumber 4 = .ok (.iload_n 1, 1) := by decide +kernel
theorem dX4_isNumber_5 : decode cX4_isNumber 5 = .ok (.aload_n 0, 1) := by decide +kernel
theorem dX4_isNumber_6 : decode cX4_isNumber 6 = .ok (.getfield 9, 3) := by decide +kernel
theorem dX4_isNumber_9 : decode cX4_isNumber 9 = .ok (.arraylength, 1) := by decide +kernel
theorem dX4_isNumber_10 : decode cX4_isNumber 10 = .ok (.if_icmp .ge 16, 3) := by decide +kernel
theorem dX4_isNumber_13 : decode cX4_isNumber 13 = .ok (.iload_n 1, 1) := by decide +kernel
theorem dX4_isNumber_14 : decode cX4_isNumber 14 = .ok (.aload_n 0, 1) := by decide +kernel
theorem dX4_isNumber_15 : decode cX4_isNumber 15 = .ok (.getfield 15, 3) := by decide +kernel
theorem dX4_isNumber_18 : decode cX4_isNumber 18 = .ok (.arraylength, 1) := by decide +kernel
theorem dX4_isNumber_19 : decode cX4_isNumber 19 = .ok (.if_icmp .ge 7, 3) := by decide +kernel
theorem dX4_isNumber_22 : decode cX4_isNumber 22 = .ok (.iconst 1, 1) := by decide +kernel
theorem dX4_isNumber_23 : decode cX4_isNumber 23 = .ok (.goto 4, 3) := by decide +kernel
theorem dX4_isNumber_26 : decode cX4_isNumber 26 = .ok (.iconst 0, 1) := by decide +kernel
theorem dX4_isNumber_27 : decode cX4_isNumber 27 = .ok (.ireturn, 1) := by decide +kernel
set_option maxRecDepth 20000 in
theorem ggX4_sizeOf_X4_isNumber : GoodIn wsX4_sizeOf wsX4_isNumber := goodIn_r _ [6, 1, 7, 8, 9] (by decide +kernel) (by decide +kernel)
set_option maxRecDepth 20000 in
theorem gX4_sizeOf_X4_isNumber : GoodIn wsX4_sizeOf (wsV RX4 25 RX4 yX4_isNumber wsX4_isNumber) := goodIn_app (goodIn_of _ (by decide +kernel)) ggX4_sizeOf_X4_isNumber
theorem dX4_sizeOf_0 : decode cX4_sizeOf 0 = .ok (.aload_n 0, 1) := by decide +kernel
theorem dX4_sizeOf_1 : decode cX4_sizeOf 1 = .ok (.iload_n 1, 1) := by decide +kernel
theorem dX4_sizeOf_2 : decode cX4_sizeOf 2 = .ok (.invokevirtual 25, 3) := by decide +kernel
theorem dX4_sizeOf_5 : decode cX4_sizeOf 5 = .ok (.ifCond .eq 12, 3) := by decide +kernel
theorem dX4_sizeOf_8 : decode cX4_sizeOf 8 = .ok (.aload_n 0, 1) := by decide +kernel
theorem dX4_sizeOf_9 : decode cX4_sizeOf 9 = .ok (.getfield 9, 3) := by decide +kernel
theorem dX4_sizeOf_12 : decode cX4_sizeOf 12 = .ok (.iload_n 1, 1) := by decide +kernel
theorem dX4_sizeOf_13 : decode cX4_sizeOf 13 = .ok (.iaload, 1) := by decide +kernel
theorem dX4_sizeOf_14 : decode cX4_sizeOf 14 = .ok (.goto 4, 3) := by decide +kernel
theorem dX4_sizeOf_17 : decode cX4_sizeOf 17 = .ok (.iconst (-1), 1) := by decide +kernel
theorem dX4_sizeOf_18 : decode cX4_sizeOf 18 = .ok (.ireturn, 1) := by decide +kernel
set_option maxRecDepth 20000 in
theorem ggX4_cellsOf_X4_isNumber : GoodIn wsX4_cellsOf wsX4_isNumber := goodIn_r _ [6, 7, 1, 8, 9] (by decide +kernel) (by decide +kernel)
set_option maxRecDepth 20000 in
theorem gX4_cellsOf_X4_isNumber : GoodIn wsX4_cellsOf (wsV RX4 25 RX4 yX4_isNumber wsX4_isNumber) := goodIn_app (goodIn_of _ (by decide +kernel)) ggX4_cellsOf_X4_isNumber
theorem dX4_cellsOf_0 : decode cX4_cellsOf 0 = .ok (.aload_n 0, 1) := by decide +kernel
theorem dX4_cellsOf_1 : decode cX4_cellsOf 1 = .ok (.iload_n 1, 1) := by decide +kernel
theorem dX4_cellsOf_2 : decode cX4_cellsOf 2 = .ok (.invokevirtual 25, 3) := by decide +kernel
theorem dX4_cellsOf_5 : decode cX4_cellsOf 5 = .ok (.ifCond .eq 12, 3) := by decide +kernel
theorem dX4_cellsOf_8 : decode cX4_cellsOf 8 = .ok (.aload_n 0, 1) := by decide +kernel
theorem dX4_cellsOf_9 : decode cX4_cellsOf 9 = .ok (.getfield 15, 3) := by decide +kernel
theorem dX4_cellsOf_12 : decode cX4_cellsOf 12 = .ok (.iload_n 1, 1) := by decide +kernel
theorem dX4_cellsOf_13 : decode cX4_cellsOf 13 = .ok (.aaload, 1) := by decide +kernel
theorem dX4_cellsOf_14 : decode cX4_cellsOf 14 = .ok (.goto 4, 3) := by decide +kernel
theorem dX4_cellsOf_17 : decode cX4_cellsOf 17 = .ok (.aconst_null, 1) := by decide +kernel
theorem dX4_cellsOf_18 : decode cX4_cellsOf 18 = .ok (.areturn, 1) := by decide +kernel
set_option maxRecDepth 20000 in
theorem ggX4_isThere_X4_sizeOf : GoodIn wsX4_isThere wsX4_sizeOf := goodIn_r _ [5, 6, 7, 8, 9, 4, 10, 11, 12, 13] (by decide +kernel) (by decide +kernel)
set_option maxRecDepth 20000 in
theorem gX4_isThere_X4_sizeOf : GoodIn wsX4_isThere (wsV RX4 29 RX4 yX4_sizeOf wsX4_sizeOf) := goodIn_app (goodIn_of _ (by decide +kernel)) ggX4_isThere_X4_sizeOf
theorem dX4_isThere_0 : decode cX4_isThere 0 = .ok (.aload_n 0, 1) := by decide +kernel
theorem dX4_isThere_1 : decode cX4_isThere 1 = .ok (.iload_n 1, 1) := by decide +kernel
theorem dX4_isThere_2 : decode cX4_isThere 2 = .ok (.invokevirtual 29, 3) := by decide +kernel
theorem dX4_isThere_5 : decode cX4_isThere 5 = .ok (.iconst (-1), 1) := by decide +kernel
theorem dX4_isThere_6 : decode cX4_isThere 6 = .ok (.if_icmp .eq 7, 3) := by decide +kernel
theorem dX4_isThere_9 : decode cX4_isThere 9 = .ok (.iconst 1, 1) := by decide +kernel
theorem dX4_isThere_10 : decode cX4_isThere 10 = .ok (.goto 4, 3) := by decide +kernel
theorem dX4_isThere_13 : decode cX4_isThere 13 = .ok (.iconst 0, 1) := by decide +kernel
theorem dX4_isThere_14 : decode cX4_isThere 14 = .ok (.ireturn, 1) := by decide +kernel
set_option maxRecDepth 20000 in
theorem ggX4_isCell_X4_sizeOf : GoodIn wsX4_isCell wsX4_sizeOf := goodIn_r _ [5, 6, 7, 8, 9, 4, 10, 11, 12, 13] (by decide +kernel) (by decide +kernel)
set_option maxRecDepth 20000 in
theorem gX4_isCell_X4_sizeOf : GoodIn wsX4_isCell (wsV RX4 29 RX4 yX4_sizeOf wsX4_sizeOf) := goodIn_app (goodIn_of _ (by decide +kernel)) ggX4_isCell_X4_sizeOf
theorem dX4_isCell_0 : decode cX4_isCell 0 = .ok (.iload_n 2, 1) := by decide +kernel
theorem dX4_isCell_1 : decode cX4_isCell 1 = .ok (.ifCond .lt 16, 3) := by decide +kernel
theorem dX4_isCell_4 : decode cX4_isCell 4 = .ok (.iload_n 2, 1) := by decide +kernel
theorem dX4_isCell_5 : decode cX4_isCell 5 = .ok (.aload_n 0, 1) := by decide +kernel
theorem dX4_isCell_6 : decode cX4_isCell 6 = .ok (.iload_n 1, 1) := by decide +kernel
theorem dX4_isCell_7 : decode cX4_isCell 7 = .ok (.invokevirtual 29, 3) := by decide +kernel
theorem dX4_isCell_10 : decode cX4_isCell 10 = .ok (.if_icmp .ge 7, 3) := by decide +kernel
theorem dX4_isCell_13 : decode cX4_isCell 13 = .ok (.iconst 1, 1) := by decide +kernel
theorem dX4_isCell_14 : decode cX4_isCell 14 = .ok (.goto 4, 3) := by decide +kernel
theorem dX4_isCell_17 : decode cX4_isCell 17 = .ok (.iconst 0, 1) := by decide +kernel
theorem dX4_isCell_18 : decode cX4_isCell 18 = .ok (.ireturn, 1) := by decide +kernel
set_option maxRecDepth 20000 in
theorem ggX4_hasStretch_X4_sizeOf : GoodIn wsX4_hasStretch wsX4_sizeOf := goodIn_r _ [5, 6, 7, 8, 9, 4, 10, 11, 12, 13] (by decide +kernel) (by decide +kernel)
set_option maxRecDepth 20000 in
theorem gX4_hasStretch_X4_sizeOf : GoodIn wsX4_hasStretch (wsV RX4 29 RX4 yX4_sizeOf wsX4_sizeOf) := goodIn_app (goodIn_of _ (by decide +kernel)) ggX4_hasStretch_X4_sizeOf
theorem dX4_hasStretch_0 : decode cX4_hasStretch 0 = .ok (.iload_n 2, 1) := by decide +kernel
theorem dX4_hasStretch_1 : decode cX4_hasStretch 1 = .ok (.ifCond .lt 31, 3) := by decide +kernel
theorem dX4_hasStretch_4 : decode cX4_hasStretch 4 = .ok (.iload_n 2, 1) := by decide +kernel
theorem dX4_hasStretch_5 : decode cX4_hasStretch 5 = .ok (.aload_n 0, 1) := by decide +kernel
theorem dX4_hasStretch_6 : decode cX4_hasStretch 6 = .ok (.iload_n 1, 1) := by decide +kernel
theorem dX4_hasStretch_7 : decode cX4_hasStretch 7 = .ok (.invokevirtual 29, 3) := by decide +kernel
theorem dX4_hasStretch_10 : decode cX4_hasStretch 10 = .ok (.if_icmp .gt 22, 3) := by decide +kernel
theorem dX4_hasStretch_13 : decode cX4_hasStretch 13 = .ok (.iload_n 3, 1) := by decide +kernel
theorem dX4_hasStretch_14 : decode cX4_hasStretch 14 = .ok (.ifCond .lt 18, 3) := by decide +kernel
theorem dX4_hasStretch_17 : decode cX4_hasStretch 17 = .ok (.iload_n 3, 1) := by decide +kernel
theorem dX4_hasStretch_18 : decode cX4_hasStretch 18 = .ok (.aload_n 0, 1) := by decide +kernel
theorem dX4_hasStretch_19 : decode cX4_hasStretch 19 = .ok (.iload_n 1, 1) := by decide +kernel
theorem dX4_hasStretch_20 : decode cX4_hasStretch 20 = .ok (.invokevirtual 29, 3) := by decide +kernel
theorem dX4_hasStretch_23 : decode cX4_hasStretch 23 = .ok (.iload_n 2, 1) := by decide +kernel
theorem dX4_hasStretch_24 : decode cX4_hasStretch 24 = .ok (.isub, 1) := by decide +kernel
theorem dX4_hasStretch_25 : decode cX4_hasStretch 25 = .ok (.if_icmp .gt 7, 3) := by decide +kernel
theorem dX4_hasStretch_28 : decode cX4_hasStretch 28 = .ok (.iconst 1, 1) := by decide +kernel
theorem dX4_hasStretch_29 : decode cX4_hasStretch 29 = .ok (.goto 4, 3) := by decide +kernel
theorem dX4_hasStretch_32 : decode cX4_hasStretch 32 = .ok (.iconst 0, 1) := by decide +kernel
theorem dX4_hasStretch_33 : decode cX4_hasStretch 33 = .ok (.ireturn, 1) := by decide +kernel
set_option maxRecDepth 20000 in
theorem ggX4_cell_X4_isCell : GoodIn wsX4_cell wsX4_isCell := goodIn_r _ [5, 6, 7, 8, 4, 9, 10, 11, 12, 13, 14, 15, 23, 24] (by decide +kernel) (by decide +kernel)
set_option maxRecDepth 20000 in
theorem gX4_cell_X4_isCell : GoodIn wsX4_cell (wsV RX4 33 RX4 yX4_isCell wsX4_isCell) := goodIn_app (goodIn_of _ (by decide +kernel)) ggX4_cell_X4_isCell
set_option maxRecDepth 20000 in
theorem ggX4_cell_X4_cellsOf : GoodIn wsX4_cell wsX4_cellsOf := goodIn_r _ [19, 15, 11, 12, 13, 4, 14, 10, 23, 24] (by decide +kernel) (by decide +kernel)
set_option maxRecDepth 20000 in
theorem gX4_cell_X4_cellsOf : GoodIn wsX4_cell (wsV RX4 37 RX4 yX4_cellsOf wsX4_cellsOf) := goodIn_app (goodIn_of _ (by decide +kernel)) ggX4_cell_X4_cellsOf
set_option maxRecDepth 20000 in
theorem ggX4_cell_X5_item : GoodIn wsX4_cell wsX5_item := goodIn_r _ [22] (by decide +kernel) (by decide +kernel)
set_option maxRecDepth 20000 in
theorem gX4_cell_X5_item_n41 : GoodIn wsX4_cell (wsX5_item) := ggX4_cell_X5_item
theorem dX4_cell_0 : decode cX4_cell 0 = .ok (.aload_n 0, 1) := by decide +kernel
theorem dX4_cell_1 : decode cX4_cell 1 = .ok (.iload_n 1, 1) := by decide +kernel
theorem dX4_cell_2 : decode cX4_cell 2 = .ok (.iload_n 2, 1) := by decide +kernel
theorem dX4_cell_3 : decode cX4_cell 3 = .ok (.invokevirtual 33, 3) := by decide +kernel
theorem dX4_cell_6 : decode cX4_cell 6 = .ok (.ifCond .eq 15, 3) := by decide +kernel
theorem dX4_cell_9 : decode cX4_cell 9 = .ok (.aload_n 0, 1) := by decide +kernel
theorem dX4_cell_10 : decode cX4_cell 10 = .ok (.iload_n 1, 1) := by decide +kernel
theorem dX4_cell_11 : decode cX4_cell 11 = .ok (.invokevirtual 37, 3) := by decide +kernel
theorem dX4_cell_14 : decode cX4_cell 14 = .ok (.iload_n 2, 1) := by decide +kernel
theorem dX4_cell_15 : decode cX4_cell 15 = .ok (.invokestatic 41, 3) := by decide +kernel
theorem dX4_cell_18 : decode cX4_cell 18 = .ok (.goto 4, 3) := by decide +kernel
theorem dX4_cell_21 : decode cX4_cell 21 = .ok (.iconst 0, 1) := by decide +kernel
theorem dX4_cell_22 : decode cX4_cell 22 = .ok (.ireturn, 1) := by decide +kernel
set_option maxRecDepth 20000 in
theorem ggX4_setCell_X4_isCell : GoodIn wsX4_setCell wsX4_isCell := goodIn_r _ [5, 6, 7, 8, 4, 9, 10, 11, 12, 13, 14, 15, 23, 24] (by decide +kernel) (by decide +kernel)
set_option maxRecDepth 20000 in
theorem gX4_setCell_X4_isCell : GoodIn wsX4_setCell (wsV RX4 33 RX4 yX4_isCell wsX4_isCell) := goodIn_app (goodIn_of _ (by decide +kernel)) ggX4_setCell_X4_isCell
set_option maxRecDepth 20000 in
theorem ggX4_setCell_X4_cellsOf : GoodIn wsX4_setCell wsX4_cellsOf := goodIn_r _ [19, 15, 11, 12, 13, 4, 14, 10, 23, 24] (by decide +kernel) (by decide +kernel)
set_option maxRecDepth 20000 in
theorem gX4_setCell_X4_cellsOf : GoodIn wsX4_setCell (wsV RX4 37 RX4 yX4_cellsOf wsX4_cellsOf) := goodIn_app (goodIn_of _ (by decide +kernel)) ggX4_setCell_X4_cellsOf
set_option maxRecDepth 20000 in
theorem ggX4_setCell_X5_setItem : GoodIn wsX4_setCell wsX5_setItem := goodIn_r _ [22] (by decide +kernel) (by decide +kernel)
set_option maxRecDepth 20000 in
theorem gX4_setCell_X5_setItem_n45 : GoodIn wsX4_setCell (wsX5_setItem) := ggX4_setCell_X5_setItem
theorem dX4_setCell_0 : decode cX4_setCell 0 = .ok (.aload_n 0, 1) := by decide +kernel
theorem dX4_setCell_1 : decode cX4_setCell 1 = .ok (.iload_n 1, 1) := by decide +kernel
theorem dX4_setCell_2 : decode cX4_setCell 2 = .ok (.iload_n 2, 1) := by decide +kernel
theorem dX4_setCell_3 : decode cX4_setCell 3 = .ok (.invokevirtual 33, 3) := by decide +kernel
theorem dX4_setCell_6 : decode cX4_setCell 6 = .ok (.ifCond .eq 13, 3) := by decide +kernel
theorem dX4_setCell_9 : decode cX4_setCell 9 = .ok (.aload_n 0, 1) := by decide +kernel
theorem dX4_setCell_10 : decode cX4_setCell 10 = .ok (.iload_n 1, 1) := by decide +kernel
theorem dX4_setCell_11 : decode cX4_setCell 11 = .ok (.invokevirtual 37, 3) := by decide +kernel
theorem dX4_setCell_14 : decode cX4_setCell 14 = .ok (.iload_n 2, 1) := by decide +kernel
theorem dX4_setCell_15 : decode cX4_setCell 15 = .ok (.iload_n 3, 1) := by decide +kernel
theorem dX4_setCell_16 : decode cX4_setCell 16 = .ok (.invokestatic 45, 3) := by decide +kernel
theorem dX4_setCell_19 : decode cX4_setCell 19 = .ok (.return_, 1) := by decide +kernel
set_option maxRecDepth 20000 in
theorem ggX4_make_X4_cellsOf : GoodIn wsX4_make wsX4_cellsOf := goodIn_r _ [6, 7, 8, 9, 10, 5, 11, 1, 19, 20] (by decide +kernel) (by decide +kernel)
set_option maxRecDepth 20000 in
theorem gX4_make_X4_cellsOf : GoodIn wsX4_make (wsV RX4 37 RX4 yX4_cellsOf wsX4_cellsOf) := goodIn_app (goodIn_of _ (by decide +kernel)) ggX4_make_X4_cellsOf
set_option maxRecDepth 20000 in
theorem ggX4_make_X5_setItem : GoodIn wsX4_make wsX5_setItem := goodIn_r _ [14] (by decide +kernel) (by decide +kernel)
set_option maxRecDepth 20000 in
theorem gX4_make_X5_setItem_n45 : GoodIn wsX4_make (wsX5_setItem) := ggX4_make_X5_setItem
set_option maxRecDepth 20000 in
theorem ggX4_make_J7_fill_53178 : GoodIn wsX4_make wsJ7_fill_53178 := goodIn_r _ [18] (by decide +kernel) (by decide +kernel)
set_option maxRecDepth 20000 in
theorem gX4_make_J7_fill_53178 : GoodIn wsX4_make (va_wsS RX4 19 yJ7_fill_53178 wsJ7_fill_53178) := goodIn_app (goodIn_of _ (by decide +kernel)) ggX4_make_J7_fill_53178
theorem dX4_make_0 : decode cX4_make 0 = .ok (.aload_n 0, 1) := by decide +kernel
theorem dX4_make_1 : decode cX4_make 1 = .ok (.iload_n 1, 1) := by decide +kernel
theorem dX4_make_2 : decode cX4_make 2 = .ok (.invokevirtual 37, 3) := by decide +kernel
theorem dX4_make_5 : decode cX4_make 5 = .ok (.astore 4, 2) := by decide +kernel
theorem dX4_make_7 : decode cX4_make 7 = .ok (.aload 4, 2) := by decide +kernel
theorem dX4_make_9 : decode cX4_make 9 = .ok (.ifnull 29, 3) := by decide +kernel
theorem dX4_make_12 : decode cX4_make 12 = .ok (.iload_n 2, 1) := by decide +kernel
theorem dX4_make_13 : decode cX4_make 13 = .ok (.ifCond .lt 25, 3) := by decide +kernel
theorem dX4_make_16 : decode cX4_make 16 = .ok (.iload_n 2, 1) := by decide +kernel
theorem dX4_make_17 : decode cX4_make 17 = .ok (.aload 4, 2) := by decide +kernel
theorem dX4_make_19 : decode cX4_make 19 = .ok (.arraylength, 1) := by decide +kernel
theorem dX4_make_20 : decode cX4_make 20 = .ok (.if_icmp .gt 18, 3) := by decide +kernel
theorem dX4_make_23 : decode cX4_make 23 = .ok (.aload_n 0, 1) := by decide +kernel
theorem dX4_make_24 : decode cX4_make 24 = .ok (.getfield 9, 3) := by decide +kernel
theorem dX4_make_27 : decode cX4_make 27 = .ok (.iload_n 1, 1) := by decide +kernel
theorem dX4_make_28 : decode cX4_make 28 = .ok (.iload_n 2, 1) := by decide +kernel
theorem dX4_make_29 : decode cX4_make 29 = .ok (.invokestatic 45, 3) := by decide +kernel
theorem dX4_make_32 : decode cX4_make 32 = .ok (.aload 4, 2) := by decide +kernel
theorem dX4_make_34 : decode cX4_make 34 = .ok (.iload_n 3, 1) := by decide +kernel
theorem dX4_make_35 : decode cX4_make 35 = .ok (.invokestatic 19, 3) := by decide +kernel
theorem dX4_make_38 : decode cX4_make 38 = .ok (.return_, 1) := by decide +kernel
set_option maxRecDepth 20000 in
theorem ggX4_remove_X5_setItem : GoodIn wsX4_remove wsX5_setItem := goodIn_r _ [4] (by decide +kernel) (by decide +kernel)
set_option maxRecDepth 20000 in
theorem gX4_remove_X5_setItem_n45 : GoodIn wsX4_remove (wsX5_setItem) := ggX4_remove_X5_setItem
theorem dX4_remove_0 : decode cX4_remove 0 = .ok (.aload_n 0, 1) := by decide +kernel
theorem dX4_remove_1 : decode cX4_remove 1 = .ok (.getfield 9, 3) := by decide +kernel
theorem dX4_remove_4 : decode cX4_remove 4 = .ok (.iload_n 1, 1) := by decide +kernel
theorem dX4_remove_5 : decode cX4_remove 5 = .ok (.iconst (-1), 1) := by decide +kernel
theorem dX4_remove_6 : decode cX4_remove 6 = .ok (.invokestatic 45, 3) := by decide +kernel
theorem dX4_remove_9 : decode cX4_remove 9 = .ok (.return_, 1) := by decide +kernel
set_option maxRecDepth 20000 in
theorem ggX4_copyCells_X4_hasStretch : GoodIn wsX4_copyCells wsX4_hasStretch := goodIn_r _ [5, 6, 7, 8, 4, 9, 10, 11, 12, 13, 14, 15, 27, 28] (by decide +kernel) (by decide +kernel)
set_option maxRecDepth 20000 in
theorem gX4_copyCells_X4_hasStretch : GoodIn wsX4_copyCells (wsV RX4 49 RX4 yX4_hasStretch wsX4_hasStretch) := goodIn_app (goodIn_of _ (by decide +kernel)) ggX4_copyCells_X4_hasStretch
set_option maxRecDepth 20000 in
theorem ggX4_copyCells_X4_cellsOf : GoodIn wsX4_copyCells wsX4_cellsOf := goodIn_r _ [19, 15, 11, 12, 13, 4, 14, 10, 27, 28] (by decide +kernel) (by decide +kernel)
set_option maxRecDepth 20000 in
theorem gX4_copyCells_X4_cellsOf : GoodIn wsX4_copyCells (wsV RX4 37 RX4 yX4_cellsOf wsX4_cellsOf) := goodIn_app (goodIn_of _ (by decide +kernel)) ggX4_copyCells_X4_cellsOf
set_option maxRecDepth 20000 in
theorem ggX4_copyCells_X5_copyStretch : GoodIn wsX4_copyCells wsX5_copyStretch := goodIn_r _ [22, 23, 24, 25, 26] (by decide +kernel) (by decide +kernel)
set_option maxRecDepth 20000 in
theorem gX4_copyCells_X5_copyStretch_n53 : GoodIn wsX4_copyCells (wsX5_copyStretch) := ggX4_copyCells_X5_copyStretch
theorem dX4_copyCells_0 : decode cX4_copyCells 0 = .ok (.aload_n 0, 1) := by decide +kernel
theorem dX4_copyCells_1 : decode cX4_copyCells 1 = .ok (.iload_n 1, 1) := by decide +kernel
theorem dX4_copyCells_2 : decode cX4_copyCells 2 = .ok (.iload_n 2, 1) := by decide +kernel
theorem dX4_copyCells_3 : decode cX4_copyCells 3 = .ok (.iload 5, 2) := by decide +kernel
theorem dX4_copyCells_5 : decode cX4_copyCells 5 = .ok (.invokevirtual 49, 3) := by decide +kernel
theorem dX4_copyCells_8 : decode cX4_copyCells 8 = .ok (.ifCond .eq 33, 3) := by decide +kernel
theorem dX4_copyCells_11 : decode cX4_copyCells 11 = .ok (.aload_n 0, 1) := by decide +kernel
theorem dX4_copyCells_12 : decode cX4_copyCells 12 = .ok (.iload_n 3, 1) := by decide +kernel
theorem dX4_copyCells_13 : decode cX4_copyCells 13 = .ok (.iload 4, 2) := by decide +kernel
theorem dX4_copyCells_15 : decode cX4_copyCells 15 = .ok (.iload 5, 2) := by decide +kernel
theorem dX4_copyCells_17 : decode cX4_copyCells 17 = .ok (.invokevirtual 49, 3) := by decide +kernel
theorem dX4_copyCells_20 : decode cX4_copyCells 20 = .ok (.ifCond .eq 21, 3) := by decide +kernel
theorem dX4_copyCells_23 : decode cX4_copyCells 23 = .ok (.aload_n 0, 1) := by decide +kernel
theorem dX4_copyCells_24 : decode cX4_copyCells 24 = .ok (.iload_n 1, 1) := by decide +kernel
theorem dX4_copyCells_25 : decode cX4_copyCells 25 = .ok (.invokevirtual 37, 3) := by decide +kernel
theorem dX4_copyCells_28 : decode cX4_copyCells 28 = .ok (.iload_n 2, 1) := by decide +kernel
theorem dX4_copyCells_29 : decode cX4_copyCells 29 = .ok (.aload_n 0, 1) := by decide +kernel
theorem dX4_copyCells_30 : decode cX4_copyCells 30 = .ok (.iload_n 3, 1) := by decide +kernel
theorem dX4_copyCells_31 : decode cX4_copyCells 31 = .ok (.invokevirtual 37, 3) := by decide +kernel
theorem dX4_copyCells_34 : decode cX4_copyCells 34 = .ok (.iload 4, 2) := by decide +kernel
theorem dX4_copyCells_36 : decode cX4_copyCells 36 = .ok (.iload 5, 2) := by decide +kernel
theorem dX4_copyCells_38 : decode cX4_copyCells 38 = .ok (.invokestatic 53, 3) := by decide +kernel
theorem dX4_copyCells_41 : decode cX4_copyCells 41 = .ok (.return_, 1) := by decide +kernel
set_option maxRecDepth 20000 in
theorem ggX4_howMany_X4_isThere : GoodIn wsX4_howMany wsX4_isThere := goodIn_r _ [6, 7, 8, 9, 5, 10, 1, 11, 12, 13, 14, 15, 16, 17] (by decide +kernel) (by decide +kernel)
set_option maxRecDepth 20000 in
theorem gX4_howMany_X4_isThere : GoodIn wsX4_howMany (wsV RX4 57 RX4 yX4_isThere wsX4_isThere) := goodIn_app (goodIn_of _ (by decide +kernel)) ggX4_howMany_X4_isThere
theorem dX4_howMany_0 : decode cX4_howMany 0 = .ok (.iconst 0, 1) := by decide +kernel
theorem dX4_howMany_1 : decode cX4_howMany 1 = .ok (.istore_n 1, 1) := by decide +kernel
theorem dX4_howMany_2 : decode cX4_howMany 2 = .ok (.iconst 0, 1) := by decide +kernel
theorem dX4_howMany_3 : decode cX4_howMany 3 = .ok (.istore_n 2, 1) := by decide +kernel
theorem dX4_howMany_4 : decode cX4_howMany 4 = .ok (.iload_n 2, 1) := by decide +kernel
theorem dX4_howMany_5 : decode cX4_howMany 5 = .ok (.aload_n 0, 1) := by decide +kernel
theorem dX4_howMany_6 : decode cX4_howMany 6 = .ok (.getfield 9, 3) := by decide +kernel
theorem dX4_howMany_9 : decode cX4_howMany 9 = .ok (.arraylength, 1) := by decide +kernel
theorem dX4_howMany_10 : decode cX4_howMany 10 = .ok (.if_icmp .ge 20, 3) := by decide +kernel
theorem dX4_howMany_13 : decode cX4_howMany 13 = .ok (.aload_n 0, 1) := by decide +kernel
theorem dX4_howMany_14 : decode cX4_howMany 14 = .ok (.iload_n 2, 1) := by decide +kernel
theorem dX4_howMany_15 : decode cX4_howMany 15 = .ok (.invokevirtual 57, 3) := by decide +kernel
theorem dX4_howMany_18 : decode cX4_howMany 18 = .ok (.ifCond .eq 6, 3) := by decide +kernel
theorem dX4_howMany_21 : decode cX4_howMany 21 = .ok (.iinc 1 1, 3) := by decide +kernel
theorem dX4_howMany_24 : decode cX4_howMany 24 = .ok (.iinc 2 1, 3) := by decide +kernel
theorem dX4_howMany_27 : decode cX4_howMany 27 = .ok (.goto (-23), 3) := by decide +kernel
theorem dX4_howMany_30 : decode cX4_howMany 30 = .ok (.iload_n 1, 1) := by decide +kernel
theorem dX4_howMany_31 : decode cX4_howMany 31 = .ok (.ireturn, 1) := by decide +kernel
set_option maxRecDepth 20000 in
theorem ggX3_init_X0_init : GoodIn wsX3_init wsX0_init := goodIn_r _ [9, 10, 2, 3, 11, 12, 13, 14, 15, 16, 17, 18, 19, 20, 21, 22, 23, 24, 25, 26, 27, 28, 29, 30, 31, 32, 33, 34, 35, 36, 37] (by decide +kernel) (by decide +kernel)
set_option maxRecDepth 20000 in
theorem gX3_init_X0_init_n11 : GoodIn wsX3_init (wsX0_init) := ggX3_init_X0_init
theorem dX3_init_0 : decode cX3_init 0 = .ok (.aload_n 0, 1) := by decide +kernel
theorem dX3_init_1 : decode cX3_init 1 = .ok (.invokespecial 3, 3) := by decide +kernel
theorem dX3_init_4 : decode cX3_init 4 = .ok (.aload_n 0, 1) := by decide +kernel
theorem dX3_init_5 : decode cX3_init 5 = .ok (.new 9, 3) := by decide +kernel
theorem dX3_init_8 : decode cX3_init 8 = .ok (.dup, 1) := by decide +kernel
theorem dX3_init_9 : decode cX3_init 9 = .ok (.invokespecial 11, 3) := by decide +kernel
theorem dX3_init_12 : decode cX3_init 12 = .ok (.putfield 12, 3) := by decide +kernel
theorem dX3_init_15 : decode cX3_init 15 = .ok (.return_, 1) := by decide +kernel
set_option maxRecDepth 20000 in
theorem ggX3_read_X0_clear : GoodIn wsX3_read wsX0_clear := goodIn_r _ [9, 10, 11, 12, 13, 14, 15, 16, 17, 18, 61, 62, 63, 64, 65, 66, 67, 68, 69, 70, 71, 72, 73, 74, 75] (by decide +kernel) (by decide +kernel)
set_option maxRecDepth 20000 in
theorem gX3_read_X0_clear : GoodIn wsX3_read (wsV RX3 29 RX0 yX0_clear wsX0_clear) := goodIn_app (goodIn_of _ (by decide +kernel)) ggX3_read_X0_clear
set_option maxRecDepth 20000 in
theorem ggX3_read_X3_skipBlanks : GoodIn wsX3_read wsX3_skipBlanks := goodIn_r _ [23, 3, 2, 24, 25, 26, 22, 27, 1, 28, 29, 30, 57, 58, 59, 60] (by decide +kernel) (by decide +kernel)
set_option maxRecDepth 20000 in
theorem gX3_read_X3_skipBlanks : GoodIn wsX3_read (wsV RX3 32 RX3 yX3_skipBlanks wsX3_skipBlanks) := goodIn_app (goodIn_of _ (by decide +kernel)) ggX3_read_X3_skipBlanks
set_option maxRecDepth 20000 in
theorem ggX3_read_X3_readLand : GoodIn wsX3_read wsX3_readLand := goodIn_r _ [34, 3, 4, 24, 25, 26, 22, 27, 2, 1, 28, 29, 30, 35, 36, 37, 38, 39, 40, 57, 58, 59, 60, 61, 62, 63, 64, 65, 66, 67, 68, 69, 70, 71, 72, 73, 74, 75] (by decide +kernel) (by decide +kernel)
set_option maxRecDepth 20000 in
theorem gX3_read_X3_readLand : GoodIn wsX3_read (wsV RX3 35 RX3 yX3_readLand wsX3_readLand) := goodIn_app (goodIn_of _ (by decide +kernel)) ggX3_read_X3_readLand
set_option maxRecDepth 20000 in
theorem ggX3_read_X3_readWoman : GoodIn wsX3_read wsX3_readWoman := goodIn_r _ [44, 3, 4, 24, 25, 26, 22, 27, 2, 1, 28, 29, 30, 45, 46, 47, 48, 35, 36, 37, 38, 49, 50, 51, 8, 52, 53, 10, 54, 55, 56, 39, 40, 57, 58, 59, 60, 61, 62, 63, 64, 65, 66, 67, 68, 69, 70, 71, 72, 73, 74, 75] (by decide +kernel) (by decide +kernel)
set_option maxRecDepth 20000 in
theorem gX3_read_X3_readWoman : GoodIn wsX3_read (wsV RX3 39 RX3 yX3_readWoman wsX3_readWoman) := goodIn_app (goodIn_of _ (by decide +kernel)) ggX3_read_X3_readWoman
theorem dX3_read_0 : decode cX3_read 0 = .ok (.aload_n 0, 1) := by decide +kernel
theorem dX3_read_1 : decode cX3_read 1 = .ok (.aload_n 1, 1) := by decide +kernel
theorem dX3_read_2 : decode cX3_read 2 = .ok (.putfield 18, 3) := by decide +kernel
theorem dX3_read_5 : decode cX3_read 5 = .ok (.aload_n 0, 1) := by decide +kernel
theorem dX3_read_6 : decode cX3_read 6 = .ok (.iload_n 2, 1) := by decide +kernel
theorem dX3_read_7 : decode cX3_read 7 = .ok (.putfield 22, 3) := by decide +kernel
theorem dX3_read_10 : decode cX3_read 10 = .ok (.aload_n 0, 1) := by decide +kernel
theorem dX3_read_11 : decode cX3_read 11 = .ok (.iconst 0, 1) := by decide +kernel
theorem dX3_read_12 : decode cX3_read 12 = .ok (.putfield 26, 3) := by decide +kernel
theorem dX3_read_15 : decode cX3_read 15 = .ok (.aload_n 0, 1) := by decide +kernel
theorem dX3_read_16 : decode cX3_read 16 = .ok (.getfield 12, 3) := by decide +kernel
theorem dX3_read_19 : decode cX3_read 19 = .ok (.invokevirtual 29, 3) := by decide +kernel
theorem dX3_read_22 : decode cX3_read 22 = .ok (.aload_n 0, 1) := by decide +kernel
theorem dX3_read_23 : decode cX3_read 23 = .ok (.invokevirtual 32, 3) := by decide +kernel
theorem dX3_read_26 : decode cX3_read 26 = .ok (.aload_n 0, 1) := by decide +kernel
theorem dX3_read_27 : decode cX3_read 27 = .ok (.invokevirtual 35, 3) := by decide +kernel
theorem dX3_read_30 : decode cX3_read 30 = .ok (.ifCond .ne 8, 3) := by decide +kernel
theorem dX3_read_33 : decode cX3_read 33 = .ok (.aload_n 0, 1) := by decide +kernel
theorem dX3_read_34 : decode cX3_read 34 = .ok (.getfield 26, 3) := by decide +kernel
theorem dX3_read_37 : decode cX3_read 37 = .ok (.ireturn, 1) := by decide +kernel
theorem dX3_read_38 : decode cX3_read 38 = .ok (.aload_n 0, 1) := by decide +kernel
theorem dX3_read_39 : decode cX3_read 39 = .ok (.invokevirtual 32, 3) := by decide +kernel
theorem dX3_read_42 : decode cX3_read 42 = .ok (.iconst 0, 1) := by decide +kernel
theorem dX3_read_43 : decode cX3_read 43 = .ok (.istore_n 3, 1) := by decide +kernel
theorem dX3_read_44 : decode cX3_read 44 = .ok (.iload_n 3, 1) := by decide +kernel
theorem dX3_read_45 : decode cX3_read 45 = .ok (.bipush 6, 2) := by decide +kernel
theorem dX3_read_47 : decode cX3_read 47 = .ok (.if_icmp .ge 36, 3) := by decide +kernel
theorem dX3_read_50 : decode cX3_read 50 = .ok (.aload_n 0, 1) := by decide +kernel
theorem dX3_read_51 : decode cX3_read 51 = .ok (.getfield 26, 3) := by decide +kernel
theorem dX3_read_54 : decode cX3_read 54 = .ok (.aload_n 0, 1) := by decide +kernel
theorem dX3_read_55 : decode cX3_read 55 = .ok (.getfield 22, 3) := by decide +kernel
theorem dX3_read_58 : decode cX3_read 58 = .ok (.if_icmp .ge 25, 3) := by decide +kernel
theorem dX3_read_61 : decode cX3_read 61 = .ok (.aload_n 0, 1) := by decide +kernel
theorem dX3_read_62 : decode cX3_read 62 = .ok (.invokevirtual 39, 3) := by decide +kernel
theorem dX3_read_65 : decode cX3_read 65 = .ok (.ifCond .ne 8, 3) := by decide +kernel
theorem dX3_read_68 : decode cX3_read 68 = .ok (.aload_n 0, 1) := by decide +kernel
theorem dX3_read_69 : decode cX3_read 69 = .ok (.getfield 26, 3) := by decide +kernel
theorem dX3_read_72 : decode cX3_read 72 = .ok (.ireturn, 1) := by decide +kernel
theorem dX3_read_73 : decode cX3_read 73 = .ok (.aload_n 0, 1) := by decide +kernel
theorem dX3_read_74 : decode cX3_read 74 = .ok (.invokevirtual 32, 3) := by decide +kernel
theorem dX3_read_77 : decode cX3_read 77 = .ok (.iinc 3 1, 3) := by decide +kernel
theorem dX3_read_80 : decode cX3_read 80 = .ok (.goto (-36), 3) := by decide +kernel
theorem dX3_read_83 : decode cX3_read 83 = .ok (.aload_n 0, 1) := by decide +kernel
theorem dX3_read_84 : decode cX3_read 84 = .ok (.getfield 26, 3) := by decide +kernel
theorem dX3_read_87 : decode cX3_read 87 = .ok (.aload_n 0, 1) := by decide +kernel
theorem dX3_read_88 : decode cX3_read 88 = .ok (.getfield 22, 3) := by decide +kernel
theorem dX3_read_91 : decode cX3_read 91 = .ok (.if_icmp .lt 18, 3) := by decide +kernel
theorem dX3_read_94 : decode cX3_read 94 = .ok (.aload_n 0, 1) := by decide +kernel
theorem dX3_read_95 : decode cX3_read 95 = .ok (.getfield 12, 3) := by decide +kernel
theorem dX3_read_98 : decode cX3_read 98 = .ok (.getfield 42, 3) := by decide +kernel
theorem dX3_read_101 : decode cX3_read 101 = .ok (.ifCond .le 8, 3) := by decide +kernel
theorem dX3_read_104 : decode cX3_read 104 = .ok (.bipush (-9), 2) := by decide +kernel
theorem dX3_read_106 : decode cX3_read 106 = .ok (.goto 7, 3) := by decide +kernel
theorem dX3_read_109 : decode cX3_read 109 = .ok (.aload_n 0, 1) := by decide +kernel
theorem dX3_read_110 : decode cX3_read 110 = .ok (.getfield 26, 3) := by decide +kernel
theorem dX3_read_113 : decode cX3_read 113 = .ok (.ireturn, 1) := by decide +kernel
set_option maxRecDepth 20000 in
theorem ggX3_sign_X5_item : GoodIn wsX3_sign wsX5_item := goodIn_r _ [6] (by decide +kernel) (by decide +kernel)
set_option maxRecDepth 20000 in
theorem gX3_sign_X5_item_n45 : GoodIn wsX3_sign (wsX5_item) := ggX3_sign_X5_item
theorem dX3_sign_0 : decode cX3_sign 0 = .ok (.aload_n 0, 1) := by decide +kernel
theorem dX3_sign_1 : decode cX3_sign 1 = .ok (.getfield 26, 3) := by decide +kernel
theorem dX3_sign_4 : decode cX3_sign 4 = .ok (.aload_n 0, 1) := by decide +kernel
theorem dX3_sign_5 : decode cX3_sign 5 = .ok (.getfield 22, 3) := by decide +kernel
theorem dX3_sign_8 : decode cX3_sign 8 = .ok (.if_icmp .ge 17, 3) := by decide +kernel
theorem dX3_sign_11 : decode cX3_sign 11 = .ok (.aload_n 0, 1) := by decide +kernel
theorem dX3_sign_12 : decode cX3_sign 12 = .ok (.getfield 18, 3) := by decide +kernel
theorem dX3_sign_15 : decode cX3_sign 15 = .ok (.aload_n 0, 1) := by decide +kernel
theorem dX3_sign_16 : decode cX3_sign 16 = .ok (.getfield 26, 3) := by decide +kernel
theorem dX3_sign_19 : decode cX3_sign 19 = .ok (.invokestatic 45, 3) := by decide +kernel
theorem dX3_sign_22 : decode cX3_sign 22 = .ok (.goto 5, 3) := by decide +kernel
theorem dX3_sign_25 : decode cX3_sign 25 = .ok (.bipush 32, 2) := by decide +kernel
theorem dX3_sign_27 : decode cX3_sign 27 = .ok (.ireturn, 1) := by decide +kernel
set_option maxRecDepth 20000 in
theorem ggX3_skipBlanks_X3_sign : GoodIn wsX3_skipBlanks wsX3_sign := goodIn_r _ [7, 1, 2, 8, 9, 10, 11, 12, 13, 14, 15] (by decide +kernel) (by decide +kernel)
set_option maxRecDepth 20000 in
theorem gX3_skipBlanks_X3_sign : GoodIn wsX3_skipBlanks (wsV RX3 49 RX3 yX3_sign wsX3_sign) := goodIn_app (goodIn_of _ (by decide +kernel)) ggX3_skipBlanks_X3_sign
theorem dX3_skipBlanks_0 : decode cX3_skipBlanks 0 = .ok (.iconst 0, 1) := by decide +kernel
theorem dX3_skipBlanks_1 : decode cX3_skipBlanks 1 = .ok (.istore_n 1, 1) := by decide +kernel
theorem dX3_skipBlanks_2 : decode cX3_skipBlanks 2 = .ok (.iload_n 1, 1) := by decide +kernel
theorem dX3_skipBlanks_3 : decode cX3_skipBlanks 3 = .ok (.bipush 60, 2) := by decide +kernel
theorem dX3_skipBlanks_5 : decode cX3_skipBlanks 5 = .ok (.if_icmp .ge 39, 3) := by decide +kernel
theorem dX3_skipBlanks_8 : decode cX3_skipBlanks 8 = .ok (.aload_n 0, 1) := by decide +kernel
theorem dX3_skipBlanks_9 : decode cX3_skipBlanks 9 = .ok (.getfield 26, 3) := by decide +kernel
theorem dX3_skipBlanks_12 : decode cX3_skipBlanks 12 = .ok (.aload_n 0, 1) := by decide +kernel
theorem dX3_skipBlanks_13 : decode cX3_skipBlanks 13 = .ok (.getfield 22, 3) := by decide +kernel
theorem dX3_skipBlanks_16 : decode cX3_skipBlanks 16 = .ok (.if_icmp .ge 28, 3) := by decide +kernel
theorem dX3_skipBlanks_19 : decode cX3_skipBlanks 19 = .ok (.aload_n 0, 1) := by decide +kernel
theorem dX3_skipBlanks_20 : decode cX3_skipBlanks 20 = .ok (.invokevirtual 49, 3) := by decide +kernel
theorem dX3_skipBlanks_23 : decode cX3_skipBlanks 23 = .ok (.bipush 32, 2) := by decide +kernel
theorem dX3_skipBlanks_25 : decode cX3_skipBlanks 25 = .ok (.if_icmp .ne 19, 3) := by decide +kernel
theorem dX3_skipBlanks_28 : decode cX3_skipBlanks 28 = .ok (.aload_n 0, 1) := by decide +kernel
theorem dX3_skipBlanks_29 : decode cX3_skipBlanks 29 = .ok (.dup, 1) := by decide +kernel
theorem dX3_skipBlanks_30 : decode cX3_skipBlanks 30 = .ok (.getfield 26, 3) := by decide +kernel
theorem dX3_skipBlanks_33 : decode cX3_skipBlanks 33 = .ok (.iconst 1, 1) := by decide +kernel
theorem dX3_skipBlanks_34 : decode cX3_skipBlanks 34 = .ok (.iadd, 1) := by decide +kernel
theorem dX3_skipBlanks_35 : decode cX3_skipBlanks 35 = .ok (.putfield 26, 3) := by decide +kernel
theorem dX3_skipBlanks_38 : decode cX3_skipBlanks 38 = .ok (.iinc 1 1, 3) := by decide +kernel
theorem dX3_skipBlanks_41 : decode cX3_skipBlanks 41 = .ok (.goto (-39), 3) := by decide +kernel
theorem dX3_skipBlanks_44 : decode cX3_skipBlanks 44 = .ok (.return_, 1) := by decide +kernel
set_option maxRecDepth 20000 in
theorem ggX3_readLand_X3_sign : GoodIn wsX3_readLand wsX3_sign := goodIn_r _ [7, 1, 8, 9, 10, 11, 12, 19, 20, 21, 22] (by decide +kernel) (by decide +kernel)
set_option maxRecDepth 20000 in
theorem gX3_readLand_X3_sign : GoodIn wsX3_readLand (wsV RX3 49 RX3 yX3_sign wsX3_sign) := goodIn_app (goodIn_of _ (by decide +kernel)) ggX3_readLand_X3_sign
set_option maxRecDepth 20000 in
theorem ggX3_readLand_X3_readFigure : GoodIn wsX3_readLand wsX3_readFigure := goodIn_r _ [16, 1, 3, 4, 5, 6, 7, 8, 9, 10, 11, 12, 19, 20, 21, 22] (by decide +kernel) (by decide +kernel)
set_option maxRecDepth 20000 in
theorem gX3_readLand_X3_readFigure : GoodIn wsX3_readLand (wsV RX3 53 RX3 yX3_readFigure wsX3_readFigure) := goodIn_app (goodIn_of _ (by decide +kernel)) ggX3_readLand_X3_readFigure
set_option maxRecDepth 20000 in
theorem ggX3_readLand_X5_setItem : GoodIn wsX3_readLand wsX5_setItem := goodIn_r _ [18] (by decide +kernel) (by decide +kernel)
set_option maxRecDepth 20000 in
theorem gX3_readLand_X5_setItem_n60 : GoodIn wsX3_readLand (wsX5_setItem) := ggX3_readLand_X5_setItem
theorem dX3_readLand_0 : decode cX3_readLand 0 = .ok (.aload_n 0, 1) := by decide +kernel
theorem dX3_readLand_1 : decode cX3_readLand 1 = .ok (.invokevirtual 49, 3) := by decide +kernel
theorem dX3_readLand_4 : decode cX3_readLand 4 = .ok (.bipush 100, 2) := by decide +kernel
theorem dX3_readLand_6 : decode cX3_readLand 6 = .ok (.if_icmp .eq 5, 3) := by decide +kernel
theorem dX3_readLand_9 : decode cX3_readLand 9 = .ok (.iconst 0, 1) := by decide +kernel
theorem dX3_readLand_10 : decode cX3_readLand 10 = .ok (.ireturn, 1) := by decide +kernel
theorem dX3_readLand_11 : decode cX3_readLand 11 = .ok (.aload_n 0, 1) := by decide +kernel
theorem dX3_readLand_12 : decode cX3_readLand 12 = .ok (.dup, 1) := by decide +kernel
theorem dX3_readLand_13 : decode cX3_readLand 13 = .ok (.getfield 26, 3) := by decide +kernel
theorem dX3_readLand_16 : decode cX3_readLand 16 = .ok (.iconst 1, 1) := by decide +kernel
theorem dX3_readLand_17 : decode cX3_readLand 17 = .ok (.iadd, 1) := by decide +kernel
theorem dX3_readLand_18 : decode cX3_readLand 18 = .ok (.putfield 26, 3) := by decide +kernel
theorem dX3_readLand_21 : decode cX3_readLand 21 = .ok (.iconst 0, 1) := by decide +kernel
theorem dX3_readLand_22 : decode cX3_readLand 22 = .ok (.istore_n 1, 1) := by decide +kernel
theorem dX3_readLand_23 : decode cX3_readLand 23 = .ok (.iload_n 1, 1) := by decide +kernel
theorem dX3_readLand_24 : decode cX3_readLand 24 = .ok (.bipush 6, 2) := by decide +kernel
theorem dX3_readLand_26 : decode cX3_readLand 26 = .ok (.if_icmp .ge 37, 3) := by decide +kernel
theorem dX3_readLand_29 : decode cX3_readLand 29 = .ok (.aload_n 0, 1) := by decide +kernel
theorem dX3_readLand_30 : decode cX3_readLand 30 = .ok (.iconst 0, 1) := by decide +kernel
theorem dX3_readLand_31 : decode cX3_readLand 31 = .ok (.bipush 9, 2) := by decide +kernel
theorem dX3_readLand_33 : decode cX3_readLand 33 = .ok (.invokevirtual 53, 3) := by decide +kernel
theorem dX3_readLand_36 : decode cX3_readLand 36 = .ok (.istore_n 2, 1) := by decide +kernel
theorem dX3_readLand_37 : decode cX3_readLand 37 = .ok (.iload_n 2, 1) := by decide +kernel
theorem dX3_readLand_38 : decode cX3_readLand 38 = .ok (.bipush (-9), 2) := by decide +kernel
theorem dX3_readLand_40 : decode cX3_readLand 40 = .ok (.if_icmp .ne 5, 3) := by decide +kernel
theorem dX3_readLand_43 : decode cX3_readLand 43 = .ok (.iconst 0, 1) := by decide +kernel
theorem dX3_readLand_44 : decode cX3_readLand 44 = .ok (.ireturn, 1) := by decide +kernel
theorem dX3_readLand_45 : decode cX3_readLand 45 = .ok (.aload_n 0, 1) := by decide +kernel
theorem dX3_readLand_46 : decode cX3_readLand 46 = .ok (.getfield 12, 3) := by decide +kernel
theorem dX3_readLand_49 : decode cX3_readLand 49 = .ok (.getfield 57, 3) := by decide +kernel
theorem dX3_readLand_52 : decode cX3_readLand 52 = .ok (.iload_n 1, 1) := by decide +kernel
theorem dX3_readLand_53 : decode cX3_readLand 53 = .ok (.iload_n 2, 1) := by decide +kernel
theorem dX3_readLand_54 : decode cX3_readLand 54 = .ok (.invokestatic 60, 3) := by decide +kernel
theorem dX3_readLand_57 : decode cX3_readLand 57 = .ok (.iinc 1 1, 3) := by decide +kernel
theorem dX3_readLand_60 : decode cX3_readLand 60 = .ok (.goto (-37), 3) := by decide +kernel
theorem dX3_readLand_63 : decode cX3_readLand 63 = .ok (.aload_n 0, 1) := by decide +kernel
theorem dX3_readLand_64 : decode cX3_readLand 64 = .ok (.iconst 0, 1) := by decide +kernel
theorem dX3_readLand_65 : decode cX3_readLand 65 = .ok (.bipush 9, 2) := by decide +kernel
theorem dX3_readLand_67 : decode cX3_readLand 67 = .ok (.invokevirtual 53, 3) := by decide +kernel
theorem dX3_readLand_70 : decode cX3_readLand 70 = .ok (.istore_n 1, 1) := by decide +kernel
theorem dX3_readLand_71 : decode cX3_readLand 71 = .ok (.iload_n 1, 1) := by decide +kernel
theorem dX3_readLand_72 : decode cX3_readLand 72 = .ok (.bipush (-9), 2) := by decide +kernel
theorem dX3_readLand_74 : decode cX3_readLand 74 = .ok (.if_icmp .ne 5, 3) := by decide +kernel
theorem dX3_readLand_77 : decode cX3_readLand 77 = .ok (.iconst 0, 1) := by decide +kernel
theorem dX3_readLand_78 : decode cX3_readLand 78 = .ok (.ireturn, 1) := by decide +kernel
theorem dX3_readLand_79 : decode cX3_readLand 79 = .ok (.aload_n 0, 1) := by decide +kernel
theorem dX3_readLand_80 : decode cX3_readLand 80 = .ok (.getfield 12, 3) := by decide +kernel
theorem dX3_readLand_83 : decode cX3_readLand 83 = .ok (.iload_n 1, 1) := by decide +kernel
theorem dX3_readLand_84 : decode cX3_readLand 84 = .ok (.putfield 64, 3) := by decide +kernel
theorem dX3_readLand_87 : decode cX3_readLand 87 = .ok (.iconst 1, 1) := by decide +kernel
theorem dX3_readLand_88 : decode cX3_readLand 88 = .ok (.ireturn, 1) := by decide +kernel
set_option maxRecDepth 20000 in
theorem ggX3_readWoman_X3_sign : GoodIn wsX3_readWoman wsX3_sign := goodIn_r _ [7, 1, 8, 9, 10, 11, 12, 33, 34, 35, 36] (by decide +kernel) (by decide +kernel)
set_option maxRecDepth 20000 in
theorem gX3_readWoman_X3_sign : GoodIn wsX3_readWoman (wsV RX3 49 RX3 yX3_sign wsX3_sign) := goodIn_app (goodIn_of _ (by decide +kernel)) ggX3_readWoman_X3_sign
set_option maxRecDepth 20000 in
theorem ggX3_readWoman_X2_byLetter : GoodIn wsX3_readWoman wsX2_byLetter := goodIn_r _ [16] (by decide +kernel) (by decide +kernel)
set_option maxRecDepth 20000 in
theorem gX3_readWoman_X2_byLetter : GoodIn wsX3_readWoman (va_wsS RX3 67 yX2_byLetter wsX2_byLetter) := goodIn_app (goodIn_of _ (by decide +kernel)) ggX3_readWoman_X2_byLetter
set_option maxRecDepth 20000 in
theorem ggX3_readWoman_X3_readFigure : GoodIn wsX3_readWoman wsX3_readFigure := goodIn_r _ [20, 1, 3, 4, 5, 6, 7, 8, 9, 10, 11, 12, 33, 34, 35, 36] (by decide +kernel) (by decide +kernel)
set_option maxRecDepth 20000 in
theorem gX3_readWoman_X3_readFigure : GoodIn wsX3_readWoman (wsV RX3 53 RX3 yX3_readFigure wsX3_readFigure) := goodIn_app (goodIn_of _ (by decide +kernel)) ggX3_readWoman_X3_readFigure
set_option maxRecDepth 20000 in
theorem ggX3_readWoman_X0_addWoman : GoodIn wsX3_readWoman wsX0_addWoman := goodIn_r _ [25, 26, 27, 28, 29, 30, 31, 11, 32, 37, 38, 39, 40, 41, 42, 43, 44, 45, 46, 47, 48, 49, 50, 51] (by decide +kernel) (by decide +kernel)
set_option maxRecDepth 20000 in
theorem gX3_readWoman_X0_addWoman : GoodIn wsX3_readWoman (wsV RX3 73 RX0 yX0_addWoman wsX0_addWoman) := goodIn_app (goodIn_of _ (by decide +kernel)) ggX3_readWoman_X0_addWoman
theorem dX3_readWoman_0 : decode cX3_readWoman 0 = .ok (.aload_n 0, 1) := by decide +kernel
theorem dX3_readWoman_1 : decode cX3_readWoman 1 = .ok (.invokevirtual 49, 3) := by decide +kernel
theorem dX3_readWoman_4 : decode cX3_readWoman 4 = .ok (.invokestatic 67, 3) := by decide +kernel
theorem dX3_readWoman_7 : decode cX3_readWoman 7 = .ok (.istore_n 1, 1) := by decide +kernel
theorem dX3_readWoman_8 : decode cX3_readWoman 8 = .ok (.iload_n 1, 1) := by decide +kernel
theorem dX3_readWoman_9 : decode cX3_readWoman 9 = .ok (.bipush (-9), 2) := by decide +kernel
theorem dX3_readWoman_11 : decode cX3_readWoman 11 = .ok (.if_icmp .ne 5, 3) := by decide +kernel
theorem dX3_readWoman_14 : decode cX3_readWoman 14 = .ok (.iconst 0, 1) := by decide +kernel
theorem dX3_readWoman_15 : decode cX3_readWoman 15 = .ok (.ireturn, 1) := by decide +kernel
theorem dX3_readWoman_16 : decode cX3_readWoman 16 = .ok (.aload_n 0, 1) := by decide +kernel
theorem dX3_readWoman_17 : decode cX3_readWoman 17 = .ok (.dup, 1) := by decide +kernel
theorem dX3_readWoman_18 : decode cX3_readWoman 18 = .ok (.getfield 26, 3) := by decide +kernel
theorem dX3_readWoman_21 : decode cX3_readWoman 21 = .ok (.iconst 1, 1) := by decide +kernel
theorem dX3_readWoman_22 : decode cX3_readWoman 22 = .ok (.iadd, 1) := by decide +kernel
theorem dX3_readWoman_23 : decode cX3_readWoman 23 = .ok (.putfield 26, 3) := by decide +kernel
theorem dX3_readWoman_26 : decode cX3_readWoman 26 = .ok (.aload_n 0, 1) := by decide +kernel
theorem dX3_readWoman_27 : decode cX3_readWoman 27 = .ok (.iconst 0, 1) := by decide +kernel
theorem dX3_readWoman_28 : decode cX3_readWoman 28 = .ok (.iconst 5, 1) := by decide +kernel
theorem dX3_readWoman_29 : decode cX3_readWoman 29 = .ok (.invokevirtual 53, 3) := by decide +kernel
theorem dX3_readWoman_32 : decode cX3_readWoman 32 = .ok (.istore_n 2, 1) := by decide +kernel
theorem dX3_readWoman_33 : decode cX3_readWoman 33 = .ok (.iload_n 2, 1) := by decide +kernel
theorem dX3_readWoman_34 : decode cX3_readWoman 34 = .ok (.bipush (-9), 2) := by decide +kernel
theorem dX3_readWoman_36 : decode cX3_readWoman 36 = .ok (.if_icmp .ne 8, 3) := by decide +kernel
theorem dX3_readWoman_39 : decode cX3_readWoman 39 = .ok (.bipush (-9), 2) := by decide +kernel
theorem dX3_readWoman_41 : decode cX3_readWoman 41 = .ok (.goto 10, 3) := by decide +kernel
theorem dX3_readWoman_44 : decode cX3_readWoman 44 = .ok (.aload_n 0, 1) := by decide +kernel
theorem dX3_readWoman_45 : decode cX3_readWoman 45 = .ok (.iconst 1, 1) := by decide +kernel
theorem dX3_readWoman_46 : decode cX3_readWoman 46 = .ok (.bipush 9, 2) := by decide +kernel
theorem dX3_readWoman_48 : decode cX3_readWoman 48 = .ok (.invokevirtual 53, 3) := by decide +kernel
theorem dX3_readWoman_51 : decode cX3_readWoman 51 = .ok (.istore_n 3, 1) := by decide +kernel
theorem dX3_readWoman_52 : decode cX3_readWoman 52 = .ok (.iload_n 3, 1) := by decide +kernel
theorem dX3_readWoman_53 : decode cX3_readWoman 53 = .ok (.bipush (-9), 2) := by decide +kernel
theorem dX3_readWoman_55 : decode cX3_readWoman 55 = .ok (.if_icmp .ne 8, 3) := by decide +kernel
theorem dX3_readWoman_58 : decode cX3_readWoman 58 = .ok (.bipush (-9), 2) := by decide +kernel
theorem dX3_readWoman_60 : decode cX3_readWoman 60 = .ok (.goto 9, 3) := by decide +kernel
theorem dX3_readWoman_63 : decode cX3_readWoman 63 = .ok (.aload_n 0, 1) := by decide +kernel
theorem dX3_readWoman_64 : decode cX3_readWoman 64 = .ok (.iconst 0, 1) := by decide +kernel
theorem dX3_readWoman_65 : decode cX3_readWoman 65 = .ok (.iconst 3, 1) := by decide +kernel
theorem dX3_readWoman_66 : decode cX3_readWoman 66 = .ok (.invokevirtual 53, 3) := by decide +kernel
theorem dX3_readWoman_69 : decode cX3_readWoman 69 = .ok (.istore 4, 2) := by decide +kernel
theorem dX3_readWoman_71 : decode cX3_readWoman 71 = .ok (.iload 4, 2) := by decide +kernel
theorem dX3_readWoman_73 : decode cX3_readWoman 73 = .ok (.bipush (-9), 2) := by decide +kernel
theorem dX3_readWoman_75 : decode cX3_readWoman 75 = .ok (.if_icmp .ne 5, 3) := by decide +kernel
theorem dX3_readWoman_78 : decode cX3_readWoman 78 = .ok (.iconst 0, 1) := by decide +kernel
theorem dX3_readWoman_79 : decode cX3_readWoman 79 = .ok (.ireturn, 1) := by decide +kernel
theorem dX3_readWoman_80 : decode cX3_readWoman 80 = .ok (.aload_n 0, 1) := by decide +kernel
theorem dX3_readWoman_81 : decode cX3_readWoman 81 = .ok (.getfield 12, 3) := by decide +kernel
theorem dX3_readWoman_84 : decode cX3_readWoman 84 = .ok (.iload_n 1, 1) := by decide +kernel
theorem dX3_readWoman_85 : decode cX3_readWoman 85 = .ok (.iload_n 2, 1) := by decide +kernel
theorem dX3_readWoman_86 : decode cX3_readWoman 86 = .ok (.iload_n 3, 1) := by decide +kernel
theorem dX3_readWoman_87 : decode cX3_readWoman 87 = .ok (.iload 4, 2) := by decide +kernel
theorem dX3_readWoman_89 : decode cX3_readWoman 89 = .ok (.invokevirtual 73, 3) := by decide +kernel
theorem dX3_readWoman_92 : decode cX3_readWoman 92 = .ok (.iconst 1, 1) := by decide +kernel
theorem dX3_readWoman_93 : decode cX3_readWoman 93 = .ok (.ireturn, 1) := by decide +kernel
set_option maxRecDepth 20000 in
theorem ggX3_readFigure_X3_sign : GoodIn wsX3_readFigure wsX3_sign := goodIn_r _ [6, 1, 7, 8, 9, 10, 11, 12, 13, 14, 15] (by decide +kernel) (by decide +kernel)
set_option maxRecDepth 20000 in
theorem gX3_readFigure_X3_sign : GoodIn wsX3_readFigure (wsV RX3 49 RX3 yX3_sign wsX3_sign) := goodIn_app (goodIn_of _ (by decide +kernel)) ggX3_readFigure_X3_sign
theorem dX3_readFigure_0 : decode cX3_readFigure 0 = .ok (.aload_n 0, 1) := by decide +kernel
theorem dX3_readFigure_1 : decode cX3_readFigure 1 = .ok (.invokevirtual 49, 3) := by decide +kernel
theorem dX3_readFigure_4 : decode cX3_readFigure 4 = .ok (.bipush 48, 2) := by decide +kernel
theorem dX3_readFigure_6 : decode cX3_readFigure 6 = .ok (.isub, 1) := by decide +kernel
theorem dX3_readFigure_7 : decode cX3_readFigure 7 = .ok (.istore_n 3, 1) := by decide +kernel
theorem dX3_readFigure_8 : decode cX3_readFigure 8 = .ok (.iload_n 3, 1) := by decide +kernel
theorem dX3_readFigure_9 : decode cX3_readFigure 9 = .ok (.iload_n 1, 1) := by decide +kernel
theorem dX3_readFigure_10 : decode cX3_readFigure 10 = .ok (.if_icmp .lt 8, 3) := by decide +kernel
theorem dX3_readFigure_13 : decode cX3_readFigure 13 = .ok (.iload_n 3, 1) := by decide +kernel
theorem dX3_readFigure_14 : decode cX3_readFigure 14 = .ok (.iload_n 2, 1) := by decide +kernel
theorem dX3_readFigure_15 : decode cX3_readFigure 15 = .ok (.if_icmp .le 6, 3) := by decide +kernel
theorem dX3_readFigure_18 : decode cX3_readFigure 18 = .ok (.bipush (-9), 2) := by decide +kernel
theorem dX3_readFigure_20 : decode cX3_readFigure 20 = .ok (.ireturn, 1) := by decide +kernel
theorem dX3_readFigure_21 : decode cX3_readFigure 21 = .ok (.aload_n 0, 1) := by decide +kernel
theorem dX3_readFigure_22 : decode cX3_readFigure 22 = .ok (.dup, 1) := by decide +kernel
theorem dX3_readFigure_23 : decode cX3_readFigure 23 = .ok (.getfield 26, 3) := by decide +kernel
theorem dX3_readFigure_26 : decode cX3_readFigure 26 = .ok (.iconst 1, 1) := by decide +kernel
theorem dX3_readFigure_27 : decode cX3_readFigure 27 = .ok (.iadd, 1) := by decide +kernel
theorem dX3_readFigure_28 : decode cX3_readFigure 28 = .ok (.putfield 26, 3) := by decide +kernel
theorem dX3_readFigure_31 : decode cX3_readFigure 31 = .ok (.iload_n 3, 1) := by decide +kernel
theorem dX3_readFigure_32 : decode cX3_readFigure 32 = .ok (.ireturn, 1) := by decide +kernel
theorem dX1_init_0 : decode cX1_init 0 = .ok (.aload_n 0, 1) := by decide +kernel
theorem dX1_init_1 : decode cX1_init 1 = .ok (.invokespecial 3, 3) := by decide +kernel
theorem dX1_init_4 : decode cX1_init 4 = .ok (.aload_n 0, 1) := by decide +kernel
theorem dX1_init_5 : decode cX1_init 5 = .ok (.bipush 6, 2) := by decide +kernel
theorem dX1_init_7 : decode cX1_init 7 = .ok (.newarray .int, 2) := by decide +kernel
theorem dX1_init_9 : decode cX1_init 9 = .ok (.putfield 9, 3) := by decide +kernel
theorem dX1_init_12 : decode cX1_init 12 = .ok (.aload_n 0, 1) := by decide +kernel
theorem dX1_init_13 : decode cX1_init 13 = .ok (.bipush 6, 2) := by decide +kernel
theorem dX1_init_15 : decode cX1_init 15 = .ok (.newarray .int, 2) := by decide +kernel
theorem dX1_init_17 : decode cX1_init 17 = .ok (.putfield 15, 3) := by decide +kernel
theorem dX1_init_20 : decode cX1_init 20 = .ok (.aload_n 0, 1) := by decide +kernel
theorem dX1_init_21 : decode cX1_init 21 = .ok (.bipush 49, 2) := by decide +kernel
theorem dX1_init_23 : decode cX1_init 23 = .ok (.newarray .int, 2) := by decide +kernel
theorem dX1_init_25 : decode cX1_init 25 = .ok (.putfield 18, 3) := by decide +kernel
theorem dX1_init_28 : decode cX1_init 28 = .ok (.return_, 1) := by decide +kernel
set_option maxRecDepth 20000 in
theorem ggX1_take_J7_fill_53178 : GoodIn wsX1_take wsJ7_fill_53178 := goodIn_r _ [6] (by decide +kernel) (by decide +kernel)
set_option maxRecDepth 20000 in
theorem gX1_take_J7_fill_53178 : GoodIn wsX1_take (va_wsS RX1 21 yJ7_fill_53178 wsJ7_fill_53178) := goodIn_app (goodIn_of _ (by decide +kernel)) ggX1_take_J7_fill_53178
set_option maxRecDepth 20000 in
theorem ggX1_take_X5_copyItems : GoodIn wsX1_take wsX5_copyItems := goodIn_r _ [9, 10, 11, 12, 13, 14, 15, 8, 16, 17, 18, 19, 20] (by decide +kernel) (by decide +kernel)
set_option maxRecDepth 20000 in
theorem gX1_take_X5_copyItems_n30 : GoodIn wsX1_take (wsX5_copyItems) := ggX1_take_X5_copyItems
set_option maxRecDepth 20000 in
theorem ggX1_take_X5_item : GoodIn wsX1_take wsX5_item := goodIn_r _ [22] (by decide +kernel) (by decide +kernel)
set_option maxRecDepth 20000 in
theorem gX1_take_X5_item_n41 : GoodIn wsX1_take (wsX5_item) := ggX1_take_X5_item
set_option maxRecDepth 20000 in
theorem ggX1_take_X5_setItem : GoodIn wsX1_take wsX5_setItem := goodIn_r _ [24] (by decide +kernel) (by decide +kernel)
set_option maxRecDepth 20000 in
theorem gX1_take_X5_setItem_n45 : GoodIn wsX1_take (wsX5_setItem) := ggX1_take_X5_setItem
theorem dX1_take_0 : decode cX1_take 0 = .ok (.aload_n 0, 1) := by decide +kernel
theorem dX1_take_1 : decode cX1_take 1 = .ok (.getfield 15, 3) := by decide +kernel
theorem dX1_take_4 : decode cX1_take 4 = .ok (.iconst 0, 1) := by decide +kernel
theorem dX1_take_5 : decode cX1_take 5 = .ok (.invokestatic 21, 3) := by decide +kernel
theorem dX1_take_8 : decode cX1_take 8 = .ok (.aload_n 1, 1) := by decide +kernel
theorem dX1_take_9 : decode cX1_take 9 = .ok (.getfield 27, 3) := by decide +kernel
theorem dX1_take_12 : decode cX1_take 12 = .ok (.aload_n 0, 1) := by decide +kernel
theorem dX1_take_13 : decode cX1_take 13 = .ok (.getfield 9, 3) := by decide +kernel
theorem dX1_take_16 : decode cX1_take 16 = .ok (.invokestatic 30, 3) := by decide +kernel
theorem dX1_take_19 : decode cX1_take 19 = .ok (.iconst 0, 1) := by decide +kernel
theorem dX1_take_20 : decode cX1_take 20 = .ok (.istore_n 2, 1) := by decide +kernel
theorem dX1_take_21 : decode cX1_take 21 = .ok (.iload_n 2, 1) := by decide +kernel
theorem dX1_take_22 : decode cX1_take 22 = .ok (.aload_n 1, 1) := by decide +kernel
theorem dX1_take_23 : decode cX1_take 23 = .ok (.getfield 34, 3) := by decide +kernel
theorem dX1_take_26 : decode cX1_take 26 = .ok (.if_icmp .ge 36, 3) := by decide +kernel
theorem dX1_take_29 : decode cX1_take 29 = .ok (.aload_n 1, 1) := by decide +kernel
theorem dX1_take_30 : decode cX1_take 30 = .ok (.getfield 38, 3) := by decide +kernel
theorem dX1_take_33 : decode cX1_take 33 = .ok (.iload_n 2, 1) := by decide +kernel
theorem dX1_take_34 : decode cX1_take 34 = .ok (.invokestatic 41, 3) := by decide +kernel
theorem dX1_take_37 : decode cX1_take 37 = .ok (.istore_n 3, 1) := by decide +kernel
theorem dX1_take_38 : decode cX1_take 38 = .ok (.aload_n 0, 1) := by decide +kernel
theorem dX1_take_39 : decode cX1_take 39 = .ok (.getfield 15, 3) := by decide +kernel
theorem dX1_take_42 : decode cX1_take 42 = .ok (.iload_n 3, 1) := by decide +kernel
theorem dX1_take_43 : decode cX1_take 43 = .ok (.aload_n 0, 1) := by decide +kernel
theorem dX1_take_44 : decode cX1_take 44 = .ok (.getfield 15, 3) := by decide +kernel
theorem dX1_take_47 : decode cX1_take 47 = .ok (.iload_n 3, 1) := by decide +kernel
theorem dX1_take_48 : decode cX1_take 48 = .ok (.invokestatic 41, 3) := by decide +kernel
theorem dX1_take_51 : decode cX1_take 51 = .ok (.iconst 1, 1) := by decide +kernel
theorem dX1_take_52 : decode cX1_take 52 = .ok (.iadd, 1) := by decide +kernel
theorem dX1_take_53 : decode cX1_take 53 = .ok (.invokestatic 45, 3) := by decide +kernel
theorem dX1_take_56 : decode cX1_take 56 = .ok (.iinc 2 1, 3) := by decide +kernel
theorem dX1_take_59 : decode cX1_take 59 = .ok (.goto (-38), 3) := by decide +kernel
theorem dX1_take_62 : decode cX1_take 62 = .ok (.return_, 1) := by decide +kernel
set_option maxRecDepth 20000 in
theorem ggX1_leastWet_X1_setLeast : GoodIn wsX1_leastWet wsX1_setLeast := goodIn_r _ [6, 7, 8, 9, 10, 34, 35, 36] (by decide +kernel) (by decide +kernel)
set_option maxRecDepth 20000 in
theorem gX1_leastWet_X1_setLeast : GoodIn wsX1_leastWet (wsV RX1 50 RX1 yX1_setLeast wsX1_setLeast) := goodIn_app (goodIn_of _ (by decide +kernel)) ggX1_leastWet_X1_setLeast
set_option maxRecDepth 20000 in
theorem ggX1_leastWet_X1_leastBy : GoodIn wsX1_leastWet wsX1_leastBy := goodIn_r _ [14, 1, 15, 16, 17, 18, 19, 20, 21, 5, 22, 23, 24, 25, 26, 27, 28, 9, 29, 30, 31, 32, 33, 7, 34, 35, 36] (by decide +kernel) (by decide +kernel)
set_option maxRecDepth 20000 in
theorem gX1_leastWet_X1_leastBy : GoodIn wsX1_leastWet (wsV RX1 54 RX1 yX1_leastBy wsX1_leastBy) := goodIn_app (goodIn_of _ (by decide +kernel)) ggX1_leastWet_X1_leastBy
set_option maxRecDepth 20000 in
theorem ggX1_leastWet_X1_leastOf : GoodIn wsX1_leastWet wsX1_leastOf := goodIn_r _ [33, 7, 28, 9, 29, 34, 35, 36] (by decide +kernel) (by decide +kernel)
set_option maxRecDepth 20000 in
theorem gX1_leastWet_X1_leastOf : GoodIn wsX1_leastWet (wsV RX1 58 RX1 yX1_leastOf wsX1_leastOf) := goodIn_app (goodIn_of _ (by decide +kernel)) ggX1_leastWet_X1_leastOf
theorem dX1_leastWet_0 : decode cX1_leastWet 0 = .ok (.iconst 0, 1) := by decide +kernel
theorem dX1_leastWet_1 : decode cX1_leastWet 1 = .ok (.istore_n 3, 1) := by decide +kernel
theorem dX1_leastWet_2 : decode cX1_leastWet 2 = .ok (.iload_n 3, 1) := by decide +kernel
theorem dX1_leastWet_3 : decode cX1_leastWet 3 = .ok (.bipush 6, 2) := by decide +kernel
theorem dX1_leastWet_5 : decode cX1_leastWet 5 = .ok (.if_icmp .gt 26, 3) := by decide +kernel
theorem dX1_leastWet_8 : decode cX1_leastWet 8 = .ok (.aload_n 0, 1) := by decide +kernel
theorem dX1_leastWet_9 : decode cX1_leastWet 9 = .ok (.bipush 6, 2) := by decide +kernel
theorem dX1_leastWet_11 : decode cX1_leastWet 11 = .ok (.iload_n 3, 1) := by decide +kernel
theorem dX1_leastWet_12 : decode cX1_leastWet 12 = .ok (.iload_n 3, 1) := by decide +kernel
theorem dX1_leastWet_13 : decode cX1_leastWet 13 = .ok (.ifCond .ne 7, 3) := by decide +kernel
theorem dX1_leastWet_16 : decode cX1_leastWet 16 = .ok (.iconst 0, 1) := by decide +kernel
theorem dX1_leastWet_17 : decode cX1_leastWet 17 = .ok (.goto 5, 3) := by decide +kernel
theorem dX1_leastWet_20 : decode cX1_leastWet 20 = .ok (.ldc 49, 2) := by decide +kernel
theorem dX1_leastWet_22 : decode cX1_leastWet 22 = .ok (.invokevirtual 50, 3) := by decide +kernel
theorem dX1_leastWet_25 : decode cX1_leastWet 25 = .ok (.iinc 3 1, 3) := by decide +kernel
theorem dX1_leastWet_28 : decode cX1_leastWet 28 = .ok (.goto (-26), 3) := by decide +kernel
theorem dX1_leastWet_31 : decode cX1_leastWet 31 = .ok (.iconst 5, 1) := by decide +kernel
theorem dX1_leastWet_32 : decode cX1_leastWet 32 = .ok (.istore_n 3, 1) := by decide +kernel
theorem dX1_leastWet_33 : decode cX1_leastWet 33 = .ok (.iload_n 3, 1) := by decide +kernel
theorem dX1_leastWet_34 : decode cX1_leastWet 34 = .ok (.ifCond .lt 39, 3) := by decide +kernel
theorem dX1_leastWet_37 : decode cX1_leastWet 37 = .ok (.iconst 0, 1) := by decide +kernel
theorem dX1_leastWet_38 : decode cX1_leastWet 38 = .ok (.istore 4, 2) := by decide +kernel
theorem dX1_leastWet_40 : decode cX1_leastWet 40 = .ok (.iload 4, 2) := by decide +kernel
theorem dX1_leastWet_42 : decode cX1_leastWet 42 = .ok (.iload_n 1, 1) := by decide +kernel
theorem dX1_leastWet_43 : decode cX1_leastWet 43 = .ok (.if_icmp .gt 24, 3) := by decide +kernel
theorem dX1_leastWet_46 : decode cX1_leastWet 46 = .ok (.aload_n 0, 1) := by decide +kernel
theorem dX1_leastWet_47 : decode cX1_leastWet 47 = .ok (.iload_n 3, 1) := by decide +kernel
theorem dX1_leastWet_48 : decode cX1_leastWet 48 = .ok (.iload 4, 2) := by decide +kernel
theorem dX1_leastWet_50 : decode cX1_leastWet 50 = .ok (.aload_n 0, 1) := by decide +kernel
theorem dX1_leastWet_51 : decode cX1_leastWet 51 = .ok (.iload_n 3, 1) := by decide +kernel
theorem dX1_leastWet_52 : decode cX1_leastWet 52 = .ok (.iload 4, 2) := by decide +kernel
theorem dX1_leastWet_54 : decode cX1_leastWet 54 = .ok (.iload_n 2, 1) := by decide +kernel
theorem dX1_leastWet_55 : decode cX1_leastWet 55 = .ok (.invokevirtual 54, 3) := by decide +kernel
theorem dX1_leastWet_58 : decode cX1_leastWet 58 = .ok (.invokevirtual 50, 3) := by decide +kernel
theorem dX1_leastWet_61 : decode cX1_leastWet 61 = .ok (.iinc 4 1, 3) := by decide +kernel
theorem dX1_leastWet_64 : decode cX1_leastWet 64 = .ok (.goto (-24), 3) := by decide +kernel
theorem dX1_leastWet_67 : decode cX1_leastWet 67 = .ok (.iinc 3 (-1), 3) := by decide +kernel
theorem dX1_leastWet_70 : decode cX1_leastWet 70 = .ok (.goto (-37), 3) := by decide +kernel
theorem dX1_leastWet_73 : decode cX1_leastWet 73 = .ok (.aload_n 0, 1) := by decide +kernel
theorem dX1_leastWet_74 : decode cX1_leastWet 74 = .ok (.iconst 0, 1) := by decide +kernel
theorem dX1_leastWet_75 : decode cX1_leastWet 75 = .ok (.iload_n 1, 1) := by decide +kernel
theorem dX1_leastWet_76 : decode cX1_leastWet 76 = .ok (.invokevirtual 58, 3) := by decide +kernel
theorem dX1_leastWet_79 : decode cX1_leastWet 79 = .ok (.ireturn, 1) := by decide +kernel
set_option maxRecDepth 20000 in
theorem ggX1_fewestAt_X1_wayOf : GoodIn wsX1_fewestAt wsX1_wayOf := goodIn_r _ [5, 6, 7, 8, 9, 10, 11, 12, 13, 14, 15, 16, 17, 18, 19, 20, 21, 4, 22, 23, 24, 25, 26] (by decide +kernel) (by decide +kernel)
set_option maxRecDepth 20000 in
theorem gX1_fewestAt_X1_wayOf : GoodIn wsX1_fewestAt (wsV RX1 62 RX1 yX1_wayOf wsX1_wayOf) := goodIn_app (goodIn_of _ (by decide +kernel)) ggX1_fewestAt_X1_wayOf
set_option maxRecDepth 20000 in
theorem ggX1_fewestAt_X1_leastOf : GoodIn wsX1_fewestAt wsX1_leastOf := goodIn_r _ [22, 23, 16, 17, 18, 24, 25, 26] (by decide +kernel) (by decide +kernel)
set_option maxRecDepth 20000 in
theorem gX1_fewestAt_X1_leastOf : GoodIn wsX1_fewestAt (wsV RX1 58 RX1 yX1_leastOf wsX1_leastOf) := goodIn_app (goodIn_of _ (by decide +kernel)) ggX1_fewestAt_X1_leastOf
theorem dX1_fewestAt_0 : decode cX1_fewestAt 0 = .ok (.iconst 0, 1) := by decide +kernel
theorem dX1_fewestAt_1 : decode cX1_fewestAt 1 = .ok (.istore 4, 2) := by decide +kernel
theorem dX1_fewestAt_3 : decode cX1_fewestAt 3 = .ok (.iload 4, 2) := by decide +kernel
theorem dX1_fewestAt_5 : decode cX1_fewestAt 5 = .ok (.iload_n 2, 1) := by decide +kernel
theorem dX1_fewestAt_6 : decode cX1_fewestAt 6 = .ok (.if_icmp .gt 30, 3) := by decide +kernel
theorem dX1_fewestAt_9 : decode cX1_fewestAt 9 = .ok (.aload_n 0, 1) := by decide +kernel
theorem dX1_fewestAt_10 : decode cX1_fewestAt 10 = .ok (.iload_n 1, 1) := by decide +kernel
theorem dX1_fewestAt_11 : decode cX1_fewestAt 11 = .ok (.iload_n 2, 1) := by decide +kernel
theorem dX1_fewestAt_12 : decode cX1_fewestAt 12 = .ok (.iload 4, 2) := by decide +kernel
theorem dX1_fewestAt_14 : decode cX1_fewestAt 14 = .ok (.iload_n 3, 1) := by decide +kernel
theorem dX1_fewestAt_15 : decode cX1_fewestAt 15 = .ok (.invokevirtual 62, 3) := by decide +kernel
theorem dX1_fewestAt_18 : decode cX1_fewestAt 18 = .ok (.aload_n 0, 1) := by decide +kernel
theorem dX1_fewestAt_19 : decode cX1_fewestAt 19 = .ok (.iload_n 1, 1) := by decide +kernel
theorem dX1_fewestAt_20 : decode cX1_fewestAt 20 = .ok (.iload_n 2, 1) := by decide +kernel
theorem dX1_fewestAt_21 : decode cX1_fewestAt 21 = .ok (.invokevirtual 58, 3) := by decide +kernel
theorem dX1_fewestAt_24 : decode cX1_fewestAt 24 = .ok (.if_icmp .ne 6, 3) := by decide +kernel
theorem dX1_fewestAt_27 : decode cX1_fewestAt 27 = .ok (.iload 4, 2) := by decide +kernel
theorem dX1_fewestAt_29 : decode cX1_fewestAt 29 = .ok (.ireturn, 1) := by decide +kernel
theorem dX1_fewestAt_30 : decode cX1_fewestAt 30 = .ok (.iinc 4 1, 3) := by decide +kernel
theorem dX1_fewestAt_33 : decode cX1_fewestAt 33 = .ok (.goto (-30), 3) := by decide +kernel
theorem dX1_fewestAt_36 : decode cX1_fewestAt 36 = .ok (.iconst 0, 1) := by decide +kernel
theorem dX1_fewestAt_37 : decode cX1_fewestAt 37 = .ok (.ireturn, 1) := by decide +kernel
set_option maxRecDepth 20000 in
theorem ggX1_leastBy_X1_wayOf : GoodIn wsX1_leastBy wsX1_wayOf := goodIn_r _ [10, 11, 1, 12, 13, 14, 4, 15, 2, 3, 5, 16, 17, 18, 19, 20, 21, 9, 22, 23, 24, 25, 26] (by decide +kernel) (by decide +kernel)
set_option maxRecDepth 20000 in
theorem gX1_leastBy_X1_wayOf : GoodIn wsX1_leastBy (wsV RX1 62 RX1 yX1_wayOf wsX1_wayOf) := goodIn_app (goodIn_of _ (by decide +kernel)) ggX1_leastBy_X1_wayOf
theorem dX1_leastBy_0 : decode cX1_leastBy 0 = .ok (.ldc 49, 2) := by decide +kernel
theorem dX1_leastBy_2 : decode cX1_leastBy 2 = .ok (.istore 4, 2) := by decide +kernel
theorem dX1_leastBy_4 : decode cX1_leastBy 4 = .ok (.iconst 0, 1) := by decide +kernel
theorem dX1_leastBy_5 : decode cX1_leastBy 5 = .ok (.istore 5, 2) := by decide +kernel
theorem dX1_leastBy_7 : decode cX1_leastBy 7 = .ok (.iload 5, 2) := by decide +kernel
theorem dX1_leastBy_9 : decode cX1_leastBy 9 = .ok (.iload_n 2, 1) := by decide +kernel
theorem dX1_leastBy_10 : decode cX1_leastBy 10 = .ok (.if_icmp .gt 25, 3) := by decide +kernel
theorem dX1_leastBy_13 : decode cX1_leastBy 13 = .ok (.iload 4, 2) := by decide +kernel
theorem dX1_leastBy_15 : decode cX1_leastBy 15 = .ok (.aload_n 0, 1) := by decide +kernel
theorem dX1_leastBy_16 : decode cX1_leastBy 16 = .ok (.iload_n 1, 1) := by decide +kernel
theorem dX1_leastBy_17 : decode cX1_leastBy 17 = .ok (.iload_n 2, 1) := by decide +kernel
theorem dX1_leastBy_18 : decode cX1_leastBy 18 = .ok (.iload 5, 2) := by decide +kernel
theorem dX1_leastBy_20 : decode cX1_leastBy 20 = .ok (.iload_n 3, 1) := by decide +kernel
theorem dX1_leastBy_21 : decode cX1_leastBy 21 = .ok (.invokevirtual 62, 3) := by decide +kernel
theorem dX1_leastBy_24 : decode cX1_leastBy 24 = .ok (.invokestatic 66, 3) := by decide +kernel
theorem dX1_leastBy_27 : decode cX1_leastBy 27 = .ok (.istore 4, 2) := by decide +kernel
theorem dX1_leastBy_29 : decode cX1_leastBy 29 = .ok (.iinc 5 1, 3) := by decide +kernel
theorem dX1_leastBy_32 : decode cX1_leastBy 32 = .ok (.goto (-25), 3) := by decide +kernel
theorem dX1_leastBy_35 : decode cX1_leastBy 35 = .ok (.iload 4, 2) := by decide +kernel
theorem dX1_leastBy_37 : decode cX1_leastBy 37 = .ok (.ireturn, 1) := by decide +kernel
set_option maxRecDepth 20000 in
theorem ggX1_wayOf_X5_item : GoodIn wsX1_wayOf wsX5_item := goodIn_r _ [13] (by decide +kernel) (by decide +kernel)
set_option maxRecDepth 20000 in
theorem gX1_wayOf_X5_item_n41 : GoodIn wsX1_wayOf (wsX5_item) := ggX1_wayOf_X5_item
set_option maxRecDepth 20000 in
theorem ggX1_wayOf_X1_leastOf : GoodIn wsX1_wayOf wsX1_leastOf := goodIn_r _ [18, 19, 11, 12, 13, 20, 21, 22] (by decide +kernel) (by decide +kernel)
set_option maxRecDepth 20000 in
theorem gX1_wayOf_X1_leastOf : GoodIn wsX1_wayOf (wsV RX1 58 RX1 yX1_leastOf wsX1_leastOf) := goodIn_app (goodIn_of _ (by decide +kernel)) ggX1_wayOf_X1_leastOf
theorem dX1_wayOf_0 : decode cX1_wayOf 0 = .ok (.aload_n 0, 1) := by decide +kernel
theorem dX1_wayOf_1 : decode cX1_wayOf 1 = .ok (.getfield 9, 3) := by decide +kernel
theorem dX1_wayOf_4 : decode cX1_wayOf 4 = .ok (.iload_n 1, 1) := by decide +kernel
theorem dX1_wayOf_5 : decode cX1_wayOf 5 = .ok (.invokestatic 41, 3) := by decide +kernel
theorem dX1_wayOf_8 : decode cX1_wayOf 8 = .ok (.iload_n 3, 1) := by decide +kernel
theorem dX1_wayOf_9 : decode cX1_wayOf 9 = .ok (.iadd, 1) := by decide +kernel
theorem dX1_wayOf_10 : decode cX1_wayOf 10 = .ok (.istore 5, 2) := by decide +kernel
theorem dX1_wayOf_12 : decode cX1_wayOf 12 = .ok (.iload 5, 2) := by decide +kernel
theorem dX1_wayOf_14 : decode cX1_wayOf 14 = .ok (.bipush 9, 2) := by decide +kernel
theorem dX1_wayOf_16 : decode cX1_wayOf 16 = .ok (.if_icmp .le 6, 3) := by decide +kernel
theorem dX1_wayOf_19 : decode cX1_wayOf 19 = .ok (.ldc 49, 2) := by decide +kernel
theorem dX1_wayOf_21 : decode cX1_wayOf 21 = .ok (.ireturn, 1) := by decide +kernel
theorem dX1_wayOf_22 : decode cX1_wayOf 22 = .ok (.ldc 49, 2) := by decide +kernel
theorem dX1_wayOf_24 : decode cX1_wayOf 24 = .ok (.aload_n 0, 1) := by decide +kernel
theorem dX1_wayOf_25 : decode cX1_wayOf 25 = .ok (.getfield 15, 3) := by decide +kernel
theorem dX1_wayOf_28 : decode cX1_wayOf 28 = .ok (.iload_n 1, 1) := by decide +kernel
theorem dX1_wayOf_29 : decode cX1_wayOf 29 = .ok (.invokestatic 41, 3) := by decide +kernel
theorem dX1_wayOf_32 : decode cX1_wayOf 32 = .ok (.iconst 0, 1) := by decide +kernel
theorem dX1_wayOf_33 : decode cX1_wayOf 33 = .ok (.iload 4, 2) := by decide +kernel
theorem dX1_wayOf_35 : decode cX1_wayOf 35 = .ok (.iload 5, 2) := by decide +kernel
theorem dX1_wayOf_37 : decode cX1_wayOf 37 = .ok (.isub, 1) := by decide +kernel
theorem dX1_wayOf_38 : decode cX1_wayOf 38 = .ok (.invokestatic 71, 3) := by decide +kernel
theorem dX1_wayOf_41 : decode cX1_wayOf 41 = .ok (.imul, 1) := by decide +kernel
theorem dX1_wayOf_42 : decode cX1_wayOf 42 = .ok (.aload_n 0, 1) := by decide +kernel
theorem dX1_wayOf_43 : decode cX1_wayOf 43 = .ok (.iload_n 1, 1) := by decide +kernel
theorem dX1_wayOf_44 : decode cX1_wayOf 44 = .ok (.iconst 1, 1) := by decide +kernel
theorem dX1_wayOf_45 : decode cX1_wayOf 45 = .ok (.iadd, 1) := by decide +kernel
theorem dX1_wayOf_46 : decode cX1_wayOf 46 = .ok (.iload_n 2, 1) := by decide +kernel
theorem dX1_wayOf_47 : decode cX1_wayOf 47 = .ok (.iload_n 3, 1) := by decide +kernel
theorem dX1_wayOf_48 : decode cX1_wayOf 48 = .ok (.isub, 1) := by decide +kernel
theorem dX1_wayOf_49 : decode cX1_wayOf 49 = .ok (.invokevirtual 58, 3) := by decide +kernel
theorem dX1_wayOf_52 : decode cX1_wayOf 52 = .ok (.iadd, 1) := by decide +kernel
theorem dX1_wayOf_53 : decode cX1_wayOf 53 = .ok (.invokestatic 66, 3) := by decide +kernel
theorem dX1_wayOf_56 : decode cX1_wayOf 56 = .ok (.ireturn, 1) := by decide +kernel
set_option maxRecDepth 20000 in
theorem ggX1_leastOf_X5_item : GoodIn wsX1_leastOf wsX5_item := goodIn_r _ [4] (by decide +kernel) (by decide +kernel)
set_option maxRecDepth 20000 in
theorem gX1_leastOf_X5_item_n41 : GoodIn wsX1_leastOf (wsX5_item) := ggX1_leastOf_X5_item
theorem dX1_leastOf_0 : decode cX1_leastOf 0 = .ok (.aload_n 0, 1) := by decide +kernel
theorem dX1_leastOf_1 : decode cX1_leastOf 1 = .ok (.getfield 18, 3) := by decide +kernel
theorem dX1_leastOf_4 : decode cX1_leastOf 4 = .ok (.iload_n 1, 1) := by decide +kernel
theorem dX1_leastOf_5 : decode cX1_leastOf 5 = .ok (.bipush 7, 2) := by decide +kernel
theorem dX1_leastOf_7 : decode cX1_leastOf 7 = .ok (.imul, 1) := by decide +kernel
theorem dX1_leastOf_8 : decode cX1_leastOf 8 = .ok (.iload_n 2, 1) := by decide +kernel
theorem dX1_leastOf_9 : decode cX1_leastOf 9 = .ok (.iadd, 1) := by decide +kernel
theorem dX1_leastOf_10 : decode cX1_leastOf 10 = .ok (.invokestatic 41, 3) := by decide +kernel
theorem dX1_leastOf_13 : decode cX1_leastOf 13 = .ok (.ireturn, 1) := by decide +kernel
set_option maxRecDepth 20000 in
theorem ggX1_setLeast_X5_setItem : GoodIn wsX1_setLeast wsX5_setItem := goodIn_r _ [4] (by decide +kernel) (by decide +kernel)
set_option maxRecDepth 20000 in
theorem gX1_setLeast_X5_setItem_n45 : GoodIn wsX1_setLeast (wsX5_setItem) := ggX1_setLeast_X5_setItem
theorem dX1_setLeast_0 : decode cX1_setLeast 0 = .ok (.aload_n 0, 1) := by decide +kernel
theorem dX1_setLeast_1 : decode cX1_setLeast 1 = .ok (.getfield 18, 3) := by decide +kernel
theorem dX1_setLeast_4 : decode cX1_setLeast 4 = .ok (.iload_n 1, 1) := by decide +kernel
theorem dX1_setLeast_5 : decode cX1_setLeast 5 = .ok (.bipush 7, 2) := by decide +kernel
theorem dX1_setLeast_7 : decode cX1_setLeast 7 = .ok (.imul, 1) := by decide +kernel
theorem dX1_setLeast_8 : decode cX1_setLeast 8 = .ok (.iload_n 2, 1) := by decide +kernel
theorem dX1_setLeast_9 : decode cX1_setLeast 9 = .ok (.iadd, 1) := by decide +kernel
theorem dX1_setLeast_10 : decode cX1_setLeast 10 = .ok (.iload_n 3, 1) := by decide +kernel
theorem dX1_setLeast_11 : decode cX1_setLeast 11 = .ok (.invokestatic 45, 3) := by decide +kernel
theorem dX1_setLeast_14 : decode cX1_setLeast 14 = .ok (.return_, 1) := by decide +kernel
set_option maxRecDepth 20000 in
theorem ggX1_playedOut_X1_leadOfFirst : GoodIn wsX1_playedOut wsX1_leadOfFirst := goodIn_r _ [11, 5, 6, 3, 7, 12, 13, 14] (by decide +kernel) (by decide +kernel)
set_option maxRecDepth 20000 in
theorem gX1_playedOut_X1_leadOfFirst : GoodIn wsX1_playedOut (va_wsS RX1 74 yX1_leadOfFirst wsX1_leadOfFirst) := goodIn_app (goodIn_of _ (by decide +kernel)) ggX1_playedOut_X1_leadOfFirst
set_option maxRecDepth 20000 in
theorem ggX1_playedOut_X1_playedOut : GoodIn wsX1_playedOut wsX1_playedOut := goodIn_r _ [0, 1, 2, 3, 4, 5, 6, 7, 8, 9, 10, 11, 12, 13, 14, 15, 16, 17, 18] (by decide +kernel) (by decide +kernel)
set_option maxRecDepth 20000 in
theorem gX1_playedOut_X1_playedOut : GoodIn wsX1_playedOut (va_wsS RX1 78 yX1_playedOut wsX1_playedOut) := goodIn_app (goodIn_of _ (by decide +kernel)) ggX1_playedOut_X1_playedOut
set_option maxRecDepth 20000 in
theorem ggX1_playedOut_X5_item : GoodIn wsX1_playedOut wsX5_item := goodIn_r _ [14] (by decide +kernel) (by decide +kernel)
set_option maxRecDepth 20000 in
theorem gX1_playedOut_X5_item_n41 : GoodIn wsX1_playedOut (wsX5_item) := ggX1_playedOut_X5_item
set_option maxRecDepth 20000 in
theorem ggX1_playedOut_X5_setItem : GoodIn wsX1_playedOut wsX5_setItem := goodIn_r _ [18] (by decide +kernel) (by decide +kernel)
set_option maxRecDepth 20000 in
theorem gX1_playedOut_X5_setItem_n45 : GoodIn wsX1_playedOut (wsX5_setItem) := ggX1_playedOut_X5_setItem
theorem dX1_playedOut_0 : decode cX1_playedOut 0 = .ok (.iload_n 0, 1) := by decide +kernel
theorem dX1_playedOut_1 : decode cX1_playedOut 1 = .ok (.iload_n 1, 1) := by decide +kernel
theorem dX1_playedOut_2 : decode cX1_playedOut 2 = .ok (.if_icmp .ge 9, 3) := by decide +kernel
theorem dX1_playedOut_5 : decode cX1_playedOut 5 = .ok (.iload_n 0, 1) := by decide +kernel
theorem dX1_playedOut_6 : decode cX1_playedOut 6 = .ok (.bipush 6, 2) := by decide +kernel
theorem dX1_playedOut_8 : decode cX1_playedOut 8 = .ok (.if_icmp .lt 16, 3) := by decide +kernel
theorem dX1_playedOut_11 : decode cX1_playedOut 11 = .ok (.iload_n 2, 1) := by decide +kernel
theorem dX1_playedOut_12 : decode cX1_playedOut 12 = .ok (.bipush 20, 2) := by decide +kernel
theorem dX1_playedOut_14 : decode cX1_playedOut 14 = .ok (.invokestatic 66, 3) := by decide +kernel
theorem dX1_playedOut_17 : decode cX1_playedOut 17 = .ok (.aload_n 3, 1) := by decide +kernel
theorem dX1_playedOut_18 : decode cX1_playedOut 18 = .ok (.aload 4, 2) := by decide +kernel
theorem dX1_playedOut_20 : decode cX1_playedOut 20 = .ok (.invokestatic 74, 3) := by decide +kernel
theorem dX1_playedOut_23 : decode cX1_playedOut 23 = .ok (.ireturn, 1) := by decide +kernel
theorem dX1_playedOut_24 : decode cX1_playedOut 24 = .ok (.iload_n 0, 1) := by decide +kernel
theorem dX1_playedOut_25 : decode cX1_playedOut 25 = .ok (.iconst 2, 1) := by decide +kernel
theorem dX1_playedOut_26 : decode cX1_playedOut 26 = .ok (.irem, 1) := by decide +kernel
theorem dX1_playedOut_27 : decode cX1_playedOut 27 = .ok (.ifCond .ne 7, 3) := by decide +kernel
theorem dX1_playedOut_30 : decode cX1_playedOut 30 = .ok (.iconst 1, 1) := by decide +kernel
theorem dX1_playedOut_31 : decode cX1_playedOut 31 = .ok (.goto 4, 3) := by decide +kernel
theorem dX1_playedOut_34 : decode cX1_playedOut 34 = .ok (.iconst 0, 1) := by decide +kernel
theorem dX1_playedOut_35 : decode cX1_playedOut 35 = .ok (.istore 5, 2) := by decide +kernel
theorem dX1_playedOut_37 : decode cX1_playedOut 37 = .ok (.iload 5, 2) := by decide +kernel
theorem dX1_playedOut_39 : decode cX1_playedOut 39 = .ok (.ifCond .eq 7, 3) := by decide +kernel
theorem dX1_playedOut_42 : decode cX1_playedOut 42 = .ok (.iconst 0, 1) := by decide +kernel
theorem dX1_playedOut_43 : decode cX1_playedOut 43 = .ok (.goto 4, 3) := by decide +kernel
theorem dX1_playedOut_46 : decode cX1_playedOut 46 = .ok (.iconst 3, 1) := by decide +kernel
theorem dX1_playedOut_47 : decode cX1_playedOut 47 = .ok (.istore 6, 2) := by decide +kernel
theorem dX1_playedOut_49 : decode cX1_playedOut 49 = .ok (.iload_n 0, 1) := by decide +kernel
theorem dX1_playedOut_50 : decode cX1_playedOut 50 = .ok (.iconst 1, 1) := by decide +kernel
theorem dX1_playedOut_51 : decode cX1_playedOut 51 = .ok (.iadd, 1) := by decide +kernel
theorem dX1_playedOut_52 : decode cX1_playedOut 52 = .ok (.iload_n 1, 1) := by decide +kernel
theorem dX1_playedOut_53 : decode cX1_playedOut 53 = .ok (.iload_n 2, 1) := by decide +kernel
theorem dX1_playedOut_54 : decode cX1_playedOut 54 = .ok (.aload_n 3, 1) := by decide +kernel
theorem dX1_playedOut_55 : decode cX1_playedOut 55 = .ok (.aload 4, 2) := by decide +kernel
theorem dX1_playedOut_57 : decode cX1_playedOut 57 = .ok (.invokestatic 78, 3) := by decide +kernel
theorem dX1_playedOut_60 : decode cX1_playedOut 60 = .ok (.istore 7, 2) := by decide +kernel
theorem dX1_playedOut_62 : decode cX1_playedOut 62 = .ok (.iload 6, 2) := by decide +kernel
theorem dX1_playedOut_64 : decode cX1_playedOut 64 = .ok (.istore 8, 2) := by decide +kernel
theorem dX1_playedOut_66 : decode cX1_playedOut 66 = .ok (.iload 8, 2) := by decide +kernel
theorem dX1_playedOut_68 : decode cX1_playedOut 68 = .ok (.iload 6, 2) := by decide +kernel
theorem dX1_playedOut_70 : decode cX1_playedOut 70 = .ok (.iconst 3, 1) := by decide +kernel
theorem dX1_playedOut_71 : decode cX1_playedOut 71 = .ok (.iadd, 1) := by decide +kernel
theorem dX1_playedOut_72 : decode cX1_playedOut 72 = .ok (.if_icmp .ge 81, 3) := by decide +kernel
theorem dX1_playedOut_75 : decode cX1_playedOut 75 = .ok (.aload_n 3, 1) := by decide +kernel
theorem dX1_playedOut_76 : decode cX1_playedOut 76 = .ok (.iload 8, 2) := by decide +kernel
theorem dX1_playedOut_78 : decode cX1_playedOut 78 = .ok (.invokestatic 41, 3) := by decide +kernel
theorem dX1_playedOut_81 : decode cX1_playedOut 81 = .ok (.istore 9, 2) := by decide +kernel
theorem dX1_playedOut_83 : decode cX1_playedOut 83 = .ok (.iload 9, 2) := by decide +kernel
theorem dX1_playedOut_85 : decode cX1_playedOut 85 = .ok (.bipush 9, 2) := by decide +kernel
theorem dX1_playedOut_87 : decode cX1_playedOut 87 = .ok (.if_icmp .ge 60, 3) := by decide +kernel
theorem dX1_playedOut_90 : decode cX1_playedOut 90 = .ok (.aload_n 3, 1) := by decide +kernel
theorem dX1_playedOut_91 : decode cX1_playedOut 91 = .ok (.iload 8, 2) := by decide +kernel
theorem dX1_playedOut_93 : decode cX1_playedOut 93 = .ok (.iload 9, 2) := by decide +kernel
theorem dX1_playedOut_95 : decode cX1_playedOut 95 = .ok (.iconst 1, 1) := by decide +kernel
theorem dX1_playedOut_96 : decode cX1_playedOut 96 = .ok (.iadd, 1) := by decide +kernel
theorem dX1_playedOut_97 : decode cX1_playedOut 97 = .ok (.invokestatic 45, 3) := by decide +kernel
theorem dX1_playedOut_100 : decode cX1_playedOut 100 = .ok (.iload_n 0, 1) := by decide +kernel
theorem dX1_playedOut_101 : decode cX1_playedOut 101 = .ok (.iconst 1, 1) := by decide +kernel
theorem dX1_playedOut_102 : decode cX1_playedOut 102 = .ok (.iadd, 1) := by decide +kernel
theorem dX1_playedOut_103 : decode cX1_playedOut 103 = .ok (.iload_n 1, 1) := by decide +kernel
theorem dX1_playedOut_104 : decode cX1_playedOut 104 = .ok (.iload_n 2, 1) := by decide +kernel
theorem dX1_playedOut_105 : decode cX1_playedOut 105 = .ok (.iconst 1, 1) := by decide +kernel
theorem dX1_playedOut_106 : decode cX1_playedOut 106 = .ok (.iadd, 1) := by decide +kernel
theorem dX1_playedOut_107 : decode cX1_playedOut 107 = .ok (.aload_n 3, 1) := by decide +kernel
theorem dX1_playedOut_108 : decode cX1_playedOut 108 = .ok (.aload 4, 2) := by decide +kernel
theorem dX1_playedOut_110 : decode cX1_playedOut 110 = .ok (.invokestatic 78, 3) := by decide +kernel
theorem dX1_playedOut_113 : decode cX1_playedOut 113 = .ok (.istore 10, 2) := by decide +kernel
theorem dX1_playedOut_115 : decode cX1_playedOut 115 = .ok (.aload_n 3, 1) := by decide +kernel
theorem dX1_playedOut_116 : decode cX1_playedOut 116 = .ok (.iload 8, 2) := by decide +kernel
theorem dX1_playedOut_118 : decode cX1_playedOut 118 = .ok (.iload 9, 2) := by decide +kernel
theorem dX1_playedOut_120 : decode cX1_playedOut 120 = .ok (.invokestatic 45, 3) := by decide +kernel
theorem dX1_playedOut_123 : decode cX1_playedOut 123 = .ok (.iload 5, 2) := by decide +kernel
theorem dX1_playedOut_125 : decode cX1_playedOut 125 = .ok (.ifCond .eq 13, 3) := by decide +kernel
theorem dX1_playedOut_128 : decode cX1_playedOut 128 = .ok (.iload 7, 2) := by decide +kernel
theorem dX1_playedOut_130 : decode cX1_playedOut 130 = .ok (.iload 10, 2) := by decide +kernel
theorem dX1_playedOut_132 : decode cX1_playedOut 132 = .ok (.invokestatic 71, 3) := by decide +kernel
theorem dX1_playedOut_135 : decode cX1_playedOut 135 = .ok (.goto 10, 3) := by decide +kernel
theorem dX1_playedOut_138 : decode cX1_playedOut 138 = .ok (.iload 7, 2) := by decide +kernel
theorem dX1_playedOut_140 : decode cX1_playedOut 140 = .ok (.iload 10, 2) := by decide +kernel
theorem dX1_playedOut_142 : decode cX1_playedOut 142 = .ok (.invokestatic 66, 3) := by decide +kernel
theorem dX1_playedOut_145 : decode cX1_playedOut 145 = .ok (.istore 7, 2) := by decide +kernel
theorem dX1_playedOut_147 : decode cX1_playedOut 147 = .ok (.iinc 8 1, 3) := by decide +kernel
theorem dX1_playedOut_150 : decode cX1_playedOut 150 = .ok (.goto (-84), 3) := by decide +kernel
theorem dX1_playedOut_153 : decode cX1_playedOut 153 = .ok (.iload 7, 2) := by decide +kernel
theorem dX1_playedOut_155 : decode cX1_playedOut 155 = .ok (.ireturn, 1) := by decide +kernel
set_option maxRecDepth 20000 in
theorem ggX1_leadOfFirst_X5_item : GoodIn wsX1_leadOfFirst wsX5_item := goodIn_r _ [7] (by decide +kernel) (by decide +kernel)
set_option maxRecDepth 20000 in
theorem gX1_leadOfFirst_X5_item_n41 : GoodIn wsX1_leadOfFirst (wsX5_item) := ggX1_leadOfFirst_X5_item
theorem dX1_leadOfFirst_0 : decode cX1_leadOfFirst 0 = .ok (.iconst 0, 1) := by decide +kernel
theorem dX1_leadOfFirst_1 : decode cX1_leadOfFirst 1 = .ok (.istore_n 3, 1) := by decide +kernel
theorem dX1_leadOfFirst_2 : decode cX1_leadOfFirst 2 = .ok (.iconst 0, 1) := by decide +kernel
theorem dX1_leadOfFirst_3 : decode cX1_leadOfFirst 3 = .ok (.istore 4, 2) := by decide +kernel
theorem dX1_leadOfFirst_5 : decode cX1_leadOfFirst 5 = .ok (.iload 4, 2) := by decide +kernel
theorem dX1_leadOfFirst_7 : decode cX1_leadOfFirst 7 = .ok (.bipush 6, 2) := by decide +kernel
theorem dX1_leadOfFirst_9 : decode cX1_leadOfFirst 9 = .ok (.if_icmp .ge 47, 3) := by decide +kernel
theorem dX1_leadOfFirst_12 : decode cX1_leadOfFirst 12 = .ok (.aload_n 2, 1) := by decide +kernel
theorem dX1_leadOfFirst_13 : decode cX1_leadOfFirst 13 = .ok (.iload 4, 2) := by decide +kernel
theorem dX1_leadOfFirst_15 : decode cX1_leadOfFirst 15 = .ok (.invokestatic 41, 3) := by decide +kernel
theorem dX1_leadOfFirst_18 : decode cX1_leadOfFirst 18 = .ok (.iconst 0, 1) := by decide +kernel
theorem dX1_leadOfFirst_19 : decode cX1_leadOfFirst 19 = .ok (.iload_n 0, 1) := by decide +kernel
theorem dX1_leadOfFirst_20 : decode cX1_leadOfFirst 20 = .ok (.aload_n 1, 1) := by decide +kernel
theorem dX1_leadOfFirst_21 : decode cX1_leadOfFirst 21 = .ok (.iload 4, 2) := by decide +kernel
theorem dX1_leadOfFirst_23 : decode cX1_leadOfFirst 23 = .ok (.invokestatic 41, 3) := by decide +kernel
theorem dX1_leadOfFirst_26 : decode cX1_leadOfFirst 26 = .ok (.isub, 1) := by decide +kernel
theorem dX1_leadOfFirst_27 : decode cX1_leadOfFirst 27 = .ok (.invokestatic 71, 3) := by decide +kernel
theorem dX1_leadOfFirst_30 : decode cX1_leadOfFirst 30 = .ok (.imul, 1) := by decide +kernel
theorem dX1_leadOfFirst_31 : decode cX1_leadOfFirst 31 = .ok (.istore 5, 2) := by decide +kernel
theorem dX1_leadOfFirst_33 : decode cX1_leadOfFirst 33 = .ok (.iload_n 3, 1) := by decide +kernel
theorem dX1_leadOfFirst_34 : decode cX1_leadOfFirst 34 = .ok (.iload 4, 2) := by decide +kernel
theorem dX1_leadOfFirst_36 : decode cX1_leadOfFirst 36 = .ok (.iconst 3, 1) := by decide +kernel
theorem dX1_leadOfFirst_37 : decode cX1_leadOfFirst 37 = .ok (.if_icmp .ge 9, 3) := by decide +kernel
theorem dX1_leadOfFirst_40 : decode cX1_leadOfFirst 40 = .ok (.iload 5, 2) := by decide +kernel
theorem dX1_leadOfFirst_42 : decode cX1_leadOfFirst 42 = .ok (.ineg, 1) := by decide +kernel
theorem dX1_leadOfFirst_43 : decode cX1_leadOfFirst 43 = .ok (.goto 5, 3) := by decide +kernel
theorem dX1_leadOfFirst_46 : decode cX1_leadOfFirst 46 = .ok (.iload 5, 2) := by decide +kernel
theorem dX1_leadOfFirst_48 : decode cX1_leadOfFirst 48 = .ok (.iadd, 1) := by decide +kernel
theorem dX1_leadOfFirst_49 : decode cX1_leadOfFirst 49 = .ok (.istore_n 3, 1) := by decide +kernel
theorem dX1_leadOfFirst_50 : decode cX1_leadOfFirst 50 = .ok (.iinc 4 1, 3) := by decide +kernel
theorem dX1_leadOfFirst_53 : decode cX1_leadOfFirst 53 = .ok (.goto (-48), 3) := by decide +kernel
theorem dX1_leadOfFirst_56 : decode cX1_leadOfFirst 56 = .ok (.iload_n 3, 1) := by decide +kernel
theorem dX1_leadOfFirst_57 : decode cX1_leadOfFirst 57 = .ok (.ireturn, 1) := by decide +kernel
