theorem dX5_tellParts_1 : decode cX5_tellParts 1 = .ok (.iload_n 2, 1) := by decide +kernel
theorem dX5_tellParts_2 : decode cX5_tellParts 2 = .ok (.invokestatic 339, 3) := by decide +kernel
theorem dX5_tellParts_5 : decode cX5_tellParts 5 = .ok (.istore_n 3, 1) := by decide +kernel
theorem dX5_tellParts_6 : decode cX5_tellParts 6 = .ok (.iload_n 3, 1) := by decide +kernel
theorem dX5_tellParts_7 : decode cX5_tellParts 7 = .ok (.ifCond .le 19, 3) := by decide +kernel
theorem dX5_tellParts_10 : decode cX5_tellParts 10 = .ok (.aload_n 0, 1) := by decide +kernel
theorem dX5_tellParts_11 : decode cX5_tellParts 11 = .ok (.iload_n 1, 1) := by decide +kernel
theorem dX5_tellParts_12 : decode cX5_tellParts 12 = .ok (.iload_n 3, 1) := by decide +kernel
theorem dX5_tellParts_13 : decode cX5_tellParts 13 = .ok (.idiv, 1) := by decide +kernel
theorem dX5_tellParts_14 : decode cX5_tellParts 14 = .ok (.i2l, 1) := by decide +kernel
theorem dX5_tellParts_15 : decode cX5_tellParts 15 = .ok (.putfield 292, 3) := by decide +kernel
theorem dX5_tellParts_18 : decode cX5_tellParts 18 = .ok (.aload_n 0, 1) := by decide +kernel
theorem dX5_tellParts_19 : decode cX5_tellParts 19 = .ok (.iload_n 2, 1) := by decide +kernel
theorem dX5_tellParts_20 : decode cX5_tellParts 20 = .ok (.iload_n 3, 1) := by decide +kernel
theorem dX5_tellParts_21 : decode cX5_tellParts 21 = .ok (.idiv, 1) := by decide +kernel
theorem dX5_tellParts_22 : decode cX5_tellParts 22 = .ok (.i2l, 1) := by decide +kernel
theorem dX5_tellParts_23 : decode cX5_tellParts 23 = .ok (.putfield 55, 3) := by decide +kernel
theorem dX5_tellParts_26 : decode cX5_tellParts 26 = .ok (.return_, 1) := by decide +kernel
theorem dX5_greatestDivisor_0 : decode cX5_greatestDivisor 0 = .ok (.iload_n 1, 1) := by decide +kernel
theorem dX5_greatestDivisor_1 : decode cX5_greatestDivisor 1 = .ok (.istore_n 2, 1) := by decide +kernel
theorem dX5_greatestDivisor_2 : decode cX5_greatestDivisor 2 = .ok (.iload_n 2, 1) := by decide +kernel
theorem dX5_greatestDivisor_3 : decode cX5_greatestDivisor 3 = .ok (.iconst 1, 1) := by decide +kernel
theorem dX5_greatestDivisor_4 : decode cX5_greatestDivisor 4 = .ok (.if_icmp .le 23, 3) := by decide +kernel
theorem dX5_greatestDivisor_7 : decode cX5_greatestDivisor 7 = .ok (.iload_n 0, 1) := by decide +kernel
theorem dX5_greatestDivisor_8 : decode cX5_greatestDivisor 8 = .ok (.iload_n 2, 1) := by decide +kernel
theorem dX5_greatestDivisor_9 : decode cX5_greatestDivisor 9 = .ok (.irem, 1) := by decide +kernel
theorem dX5_greatestDivisor_10 : decode cX5_greatestDivisor 10 = .ok (.ifCond .ne 11, 3) := by decide +kernel
theorem dX5_greatestDivisor_13 : decode cX5_greatestDivisor 13 = .ok (.iload_n 1, 1) := by decide +kernel
theorem dX5_greatestDivisor_14 : decode cX5_greatestDivisor 14 = .ok (.iload_n 2, 1) := by decide +kernel
theorem dX5_greatestDivisor_15 : decode cX5_greatestDivisor 15 = .ok (.irem, 1) := by decide +kernel
theorem dX5_greatestDivisor_16 : decode cX5_greatestDivisor 16 = .ok (.ifCond .ne 5, 3) := by decide +kernel
theorem dX5_greatestDivisor_19 : decode cX5_greatestDivisor 19 = .ok (.iload_n 2, 1) := by decide +kernel
theorem dX5_greatestDivisor_20 : decode cX5_greatestDivisor 20 = .ok (.ireturn, 1) := by decide +kernel
theorem dX5_greatestDivisor_21 : decode cX5_greatestDivisor 21 = .ok (.iinc 2 (-1), 3) := by decide +kernel
theorem dX5_greatestDivisor_24 : decode cX5_greatestDivisor 24 = .ok (.goto (-22), 3) := by decide +kernel
theorem dX5_greatestDivisor_27 : decode cX5_greatestDivisor 27 = .ok (.iconst 1, 1) := by decide +kernel
theorem dX5_greatestDivisor_28 : decode cX5_greatestDivisor 28 = .ok (.ireturn, 1) := by decide +kernel
theorem dX5_isWoman_0 : decode cX5_isWoman 0 = .ok (.iload_n 1, 1) := by decide +kernel
theorem dX5_isWoman_1 : decode cX5_isWoman 1 = .ok (.ifCond .lt 18, 3) := by decide +kernel
theorem dX5_isWoman_4 : decode cX5_isWoman 4 = .ok (.iload_n 1, 1) := by decide +kernel
theorem dX5_isWoman_5 : decode cX5_isWoman 5 = .ok (.aload_n 0, 1) := by decide +kernel
theorem dX5_isWoman_6 : decode cX5_isWoman 6 = .ok (.getfield 33, 3) := by decide +kernel
theorem dX5_isWoman_9 : decode cX5_isWoman 9 = .ok (.getfield 126, 3) := by decide +kernel
theorem dX5_isWoman_12 : decode cX5_isWoman 12 = .ok (.if_icmp .ge 7, 3) := by decide +kernel
theorem dX5_isWoman_15 : decode cX5_isWoman 15 = .ok (.iconst 1, 1) := by decide +kernel
theorem dX5_isWoman_16 : decode cX5_isWoman 16 = .ok (.goto 4, 3) := by decide +kernel
theorem dX5_isWoman_19 : decode cX5_isWoman 19 = .ok (.iconst 0, 1) := by decide +kernel
theorem dX5_isWoman_20 : decode cX5_isWoman 20 = .ok (.ireturn, 1) := by decide +kernel
theorem dX5_isPast_0 : decode cX5_isPast 0 = .ok (.iload_n 1, 1) := by decide +kernel
theorem dX5_isPast_1 : decode cX5_isPast 1 = .ok (.ifCond .lt 18, 3) := by decide +kernel
theorem dX5_isPast_4 : decode cX5_isPast 4 = .ok (.iload_n 1, 1) := by decide +kernel
theorem dX5_isPast_5 : decode cX5_isPast 5 = .ok (.aload_n 0, 1) := by decide +kernel
theorem dX5_isPast_6 : decode cX5_isPast 6 = .ok (.getfield 33, 3) := by decide +kernel
theorem dX5_isPast_9 : decode cX5_isPast 9 = .ok (.getfield 148, 3) := by decide +kernel
theorem dX5_isPast_12 : decode cX5_isPast 12 = .ok (.if_icmp .ge 7, 3) := by decide +kernel
theorem dX5_isPast_15 : decode cX5_isPast 15 = .ok (.iconst 1, 1) := by decide +kernel
theorem dX5_isPast_16 : decode cX5_isPast 16 = .ok (.goto 4, 3) := by decide +kernel
theorem dX5_isPast_19 : decode cX5_isPast 19 = .ok (.iconst 0, 1) := by decide +kernel
theorem dX5_isPast_20 : decode cX5_isPast 20 = .ok (.ireturn, 1) := by decide +kernel
set_option maxRecDepth 20000 in
theorem ggX5_isSet_X0_everyone : GoodIn wsX5_isSet wsX0_everyone := goodIn_r _ [6, 7, 20, 21, 22, 23, 24, 25, 26, 27, 28, 29, 30, 31, 32, 33, 34] (by decide +kernel) (by decide +kernel)
set_option maxRecDepth 20000 in
theorem gX5_isSet_X0_everyone : GoodIn wsX5_isSet (wsV RX5 218 RX0 yX0_everyone wsX0_everyone) := goodIn_app (goodIn_of _ (by decide +kernel)) ggX5_isSet_X0_everyone
theorem dX5_isSet_0 : decode cX5_isSet 0 = .ok (.iload_n 1, 1) := by decide +kernel
theorem dX5_isSet_1 : decode cX5_isSet 1 = .ok (.ifCond .lt 18, 3) := by decide +kernel
theorem dX5_isSet_4 : decode cX5_isSet 4 = .ok (.iload_n 1, 1) := by decide +kernel
theorem dX5_isSet_5 : decode cX5_isSet 5 = .ok (.aload_n 0, 1) := by decide +kernel
theorem dX5_isSet_6 : decode cX5_isSet 6 = .ok (.getfield 33, 3) := by decide +kernel
theorem dX5_isSet_9 : decode cX5_isSet 9 = .ok (.invokevirtual 218, 3) := by decide +kernel
theorem dX5_isSet_12 : decode cX5_isSet 12 = .ok (.if_icmp .gt 7, 3) := by decide +kernel
theorem dX5_isSet_15 : decode cX5_isSet 15 = .ok (.iconst 1, 1) := by decide +kernel
theorem dX5_isSet_16 : decode cX5_isSet 16 = .ok (.goto 4, 3) := by decide +kernel
theorem dX5_isSet_19 : decode cX5_isSet 19 = .ok (.iconst 0, 1) := by decide +kernel
theorem dX5_isSet_20 : decode cX5_isSet 20 = .ok (.ireturn, 1) := by decide +kernel
theorem dX5_isPlace_0 : decode cX5_isPlace 0 = .ok (.iload_n 0, 1) := by decide +kernel
theorem dX5_isPlace_1 : decode cX5_isPlace 1 = .ok (.ifCond .lt 13, 3) := by decide +kernel
theorem dX5_isPlace_4 : decode cX5_isPlace 4 = .ok (.iload_n 0, 1) := by decide +kernel
theorem dX5_isPlace_5 : decode cX5_isPlace 5 = .ok (.bipush 6, 2) := by decide +kernel
theorem dX5_isPlace_7 : decode cX5_isPlace 7 = .ok (.if_icmp .ge 7, 3) := by decide +kernel
theorem dX5_isPlace_10 : decode cX5_isPlace 10 = .ok (.iconst 1, 1) := by decide +kernel
theorem dX5_isPlace_11 : decode cX5_isPlace 11 = .ok (.goto 4, 3) := by decide +kernel
theorem dX5_isPlace_14 : decode cX5_isPlace 14 = .ok (.iconst 0, 1) := by decide +kernel
theorem dX5_isPlace_15 : decode cX5_isPlace 15 = .ok (.ireturn, 1) := by decide +kernel
theorem dX5_isHeight_0 : decode cX5_isHeight 0 = .ok (.iload_n 0, 1) := by decide +kernel
theorem dX5_isHeight_1 : decode cX5_isHeight 1 = .ok (.ifCond .lt 13, 3) := by decide +kernel
theorem dX5_isHeight_4 : decode cX5_isHeight 4 = .ok (.iload_n 0, 1) := by decide +kernel
theorem dX5_isHeight_5 : decode cX5_isHeight 5 = .ok (.bipush 20, 2) := by decide +kernel
theorem dX5_isHeight_7 : decode cX5_isHeight 7 = .ok (.if_icmp .gt 7, 3) := by decide +kernel
theorem dX5_isHeight_10 : decode cX5_isHeight 10 = .ok (.iconst 1, 1) := by decide +kernel
theorem dX5_isHeight_11 : decode cX5_isHeight 11 = .ok (.goto 4, 3) := by decide +kernel
theorem dX5_isHeight_14 : decode cX5_isHeight 14 = .ok (.iconst 0, 1) := by decide +kernel
theorem dX5_isHeight_15 : decode cX5_isHeight 15 = .ok (.ireturn, 1) := by decide +kernel
theorem dX5_hasBit_0 : decode cX5_hasBit 0 = .ok (.iload_n 0, 1) := by decide +kernel
theorem dX5_hasBit_1 : decode cX5_hasBit 1 = .ok (.iload_n 1, 1) := by decide +kernel
theorem dX5_hasBit_2 : decode cX5_hasBit 2 = .ok (.ishr, 1) := by decide +kernel
theorem dX5_hasBit_3 : decode cX5_hasBit 3 = .ok (.iconst 1, 1) := by decide +kernel
theorem dX5_hasBit_4 : decode cX5_hasBit 4 = .ok (.iand, 1) := by decide +kernel
theorem dX5_hasBit_5 : decode cX5_hasBit 5 = .ok (.ifCond .eq 7, 3) := by decide +kernel
theorem dX5_hasBit_8 : decode cX5_hasBit 8 = .ok (.iconst 1, 1) := by decide +kernel
theorem dX5_hasBit_9 : decode cX5_hasBit 9 = .ok (.goto 4, 3) := by decide +kernel
theorem dX5_hasBit_12 : decode cX5_hasBit 12 = .ok (.iconst 0, 1) := by decide +kernel
theorem dX5_hasBit_13 : decode cX5_hasBit 13 = .ok (.ireturn, 1) := by decide +kernel
theorem dX5_item_0 : decode cX5_item 0 = .ok (.aload_n 0, 1) := by decide +kernel
theorem dX5_item_1 : decode cX5_item 1 = .ok (.ifnull 19, 3) := by decide +kernel
theorem dX5_item_4 : decode cX5_item 4 = .ok (.iload_n 1, 1) := by decide +kernel
theorem dX5_item_5 : decode cX5_item 5 = .ok (.ifCond .lt 15, 3) := by decide +kernel
theorem dX5_item_8 : decode cX5_item 8 = .ok (.iload_n 1, 1) := by decide +kernel
theorem dX5_item_9 : decode cX5_item 9 = .ok (.aload_n 0, 1) := by decide +kernel
theorem dX5_item_10 : decode cX5_item 10 = .ok (.arraylength, 1) := by decide +kernel
theorem dX5_item_11 : decode cX5_item 11 = .ok (.if_icmp .ge 9, 3) := by decide +kernel
theorem dX5_item_14 : decode cX5_item 14 = .ok (.aload_n 0, 1) := by decide +kernel
theorem dX5_item_15 : decode cX5_item 15 = .ok (.iload_n 1, 1) := by decide +kernel
theorem dX5_item_16 : decode cX5_item 16 = .ok (.iaload, 1) := by decide +kernel
theorem dX5_item_17 : decode cX5_item 17 = .ok (.goto 4, 3) := by decide +kernel
theorem dX5_item_20 : decode cX5_item 20 = .ok (.iconst 0, 1) := by decide +kernel
theorem dX5_item_21 : decode cX5_item 21 = .ok (.ireturn, 1) := by decide +kernel
theorem dX5_setItem_0 : decode cX5_setItem 0 = .ok (.aload_n 0, 1) := by decide +kernel
theorem dX5_setItem_1 : decode cX5_setItem 1 = .ok (.ifnull 17, 3) := by decide +kernel
theorem dX5_setItem_4 : decode cX5_setItem 4 = .ok (.iload_n 1, 1) := by decide +kernel
theorem dX5_setItem_5 : decode cX5_setItem 5 = .ok (.ifCond .lt 13, 3) := by decide +kernel
theorem dX5_setItem_8 : decode cX5_setItem 8 = .ok (.iload_n 1, 1) := by decide +kernel
theorem dX5_setItem_9 : decode cX5_setItem 9 = .ok (.aload_n 0, 1) := by decide +kernel
theorem dX5_setItem_10 : decode cX5_setItem 10 = .ok (.arraylength, 1) := by decide +kernel
theorem dX5_setItem_11 : decode cX5_setItem 11 = .ok (.if_icmp .ge 7, 3) := by decide +kernel
theorem dX5_setItem_14 : decode cX5_setItem 14 = .ok (.aload_n 0, 1) := by decide +kernel
theorem dX5_setItem_15 : decode cX5_setItem 15 = .ok (.iload_n 1, 1) := by decide +kernel
theorem dX5_setItem_16 : decode cX5_setItem 16 = .ok (.iload_n 2, 1) := by decide +kernel
theorem dX5_setItem_17 : decode cX5_setItem 17 = .ok (.iastore, 1) := by decide +kernel
theorem dX5_setItem_18 : decode cX5_setItem 18 = .ok (.return_, 1) := by decide +kernel
set_option maxRecDepth 20000 in
theorem ggX5_copyItems_X5_copyStretch : GoodIn wsX5_copyItems wsX5_copyStretch := goodIn_r _ [8, 9, 10, 11, 12] (by decide +kernel) (by decide +kernel)
set_option maxRecDepth 20000 in
theorem gX5_copyItems_X5_copyStretch : GoodIn wsX5_copyItems (va_wsS RX5 342 yX5_copyStretch wsX5_copyStretch) := goodIn_app (goodIn_of _ (by decide +kernel)) ggX5_copyItems_X5_copyStretch
theorem dX5_copyItems_0 : decode cX5_copyItems 0 = .ok (.aload_n 0, 1) := by decide +kernel
theorem dX5_copyItems_1 : decode cX5_copyItems 1 = .ok (.ifnull 21, 3) := by decide +kernel
theorem dX5_copyItems_4 : decode cX5_copyItems 4 = .ok (.aload_n 1, 1) := by decide +kernel
theorem dX5_copyItems_5 : decode cX5_copyItems 5 = .ok (.ifnull 17, 3) := by decide +kernel
theorem dX5_copyItems_8 : decode cX5_copyItems 8 = .ok (.aload_n 0, 1) := by decide +kernel
theorem dX5_copyItems_9 : decode cX5_copyItems 9 = .ok (.iconst 0, 1) := by decide +kernel
theorem dX5_copyItems_10 : decode cX5_copyItems 10 = .ok (.aload_n 1, 1) := by decide +kernel
theorem dX5_copyItems_11 : decode cX5_copyItems 11 = .ok (.iconst 0, 1) := by decide +kernel
theorem dX5_copyItems_12 : decode cX5_copyItems 12 = .ok (.aload_n 0, 1) := by decide +kernel
theorem dX5_copyItems_13 : decode cX5_copyItems 13 = .ok (.arraylength, 1) := by decide +kernel
theorem dX5_copyItems_14 : decode cX5_copyItems 14 = .ok (.aload_n 1, 1) := by decide +kernel
theorem dX5_copyItems_15 : decode cX5_copyItems 15 = .ok (.arraylength, 1) := by decide +kernel
theorem dX5_copyItems_16 : decode cX5_copyItems 16 = .ok (.invokestatic 261, 3) := by decide +kernel
theorem dX5_copyItems_19 : decode cX5_copyItems 19 = .ok (.invokestatic 342, 3) := by decide +kernel
theorem dX5_copyItems_22 : decode cX5_copyItems 22 = .ok (.return_, 1) := by decide +kernel
theorem dX5_copyStretch_0 : decode cX5_copyStretch 0 = .ok (.aload_n 0, 1) := by decide +kernel
theorem dX5_copyStretch_1 : decode cX5_copyStretch 1 = .ok (.ifnull 20, 3) := by decide +kernel
theorem dX5_copyStretch_4 : decode cX5_copyStretch 4 = .ok (.aload_n 2, 1) := by decide +kernel
theorem dX5_copyStretch_5 : decode cX5_copyStretch 5 = .ok (.ifnull 16, 3) := by decide +kernel
theorem dX5_copyStretch_8 : decode cX5_copyStretch 8 = .ok (.iload_n 1, 1) := by decide +kernel
theorem dX5_copyStretch_9 : decode cX5_copyStretch 9 = .ok (.ifCond .lt 12, 3) := by decide +kernel
theorem dX5_copyStretch_12 : decode cX5_copyStretch 12 = .ok (.iload_n 3, 1) := by decide +kernel
theorem dX5_copyStretch_13 : decode cX5_copyStretch 13 = .ok (.ifCond .lt 8, 3) := by decide +kernel
theorem dX5_copyStretch_16 : decode cX5_copyStretch 16 = .ok (.iload 4, 2) := by decide +kernel
theorem dX5_copyStretch_18 : decode cX5_copyStretch 18 = .ok (.ifCond .ge 4, 3) := by decide +kernel
theorem dX5_copyStretch_21 : decode cX5_copyStretch 21 = .ok (.return_, 1) := by decide +kernel
theorem dX5_copyStretch_22 : decode cX5_copyStretch 22 = .ok (.iload 4, 2) := by decide +kernel
theorem dX5_copyStretch_24 : decode cX5_copyStretch 24 = .ok (.aload_n 0, 1) := by decide +kernel
theorem dX5_copyStretch_25 : decode cX5_copyStretch 25 = .ok (.arraylength, 1) := by decide +kernel
theorem dX5_copyStretch_26 : decode cX5_copyStretch 26 = .ok (.iload_n 1, 1) := by decide +kernel
theorem dX5_copyStretch_27 : decode cX5_copyStretch 27 = .ok (.isub, 1) := by decide +kernel
theorem dX5_copyStretch_28 : decode cX5_copyStretch 28 = .ok (.if_icmp .gt 21, 3) := by decide +kernel
theorem dX5_copyStretch_31 : decode cX5_copyStretch 31 = .ok (.iload 4, 2) := by decide +kernel
theorem dX5_copyStretch_33 : decode cX5_copyStretch 33 = .ok (.aload_n 2, 1) := by decide +kernel
theorem dX5_copyStretch_34 : decode cX5_copyStretch 34 = .ok (.arraylength, 1) := by decide +kernel
theorem dX5_copyStretch_35 : decode cX5_copyStretch 35 = .ok (.iload_n 3, 1) := by decide +kernel
theorem dX5_copyStretch_36 : decode cX5_copyStretch 36 = .ok (.isub, 1) := by decide +kernel
theorem dX5_copyStretch_37 : decode cX5_copyStretch 37 = .ok (.if_icmp .gt 12, 3) := by decide +kernel
theorem dX5_copyStretch_40 : decode cX5_copyStretch 40 = .ok (.aload_n 0, 1) := by decide +kernel
theorem dX5_copyStretch_41 : decode cX5_copyStretch 41 = .ok (.iload_n 1, 1) := by decide +kernel
theorem dX5_copyStretch_42 : decode cX5_copyStretch 42 = .ok (.aload_n 2, 1) := by decide +kernel
theorem dX5_copyStretch_43 : decode cX5_copyStretch 43 = .ok (.iload_n 3, 1) := by decide +kernel
theorem dX5_copyStretch_44 : decode cX5_copyStretch 44 = .ok (.iload 4, 2) := by decide +kernel
theorem dX5_copyStretch_46 : decode cX5_copyStretch 46 = .ok (.invokestatic 346, 3) := by decide +kernel
theorem dX5_copyStretch_49 : decode cX5_copyStretch 49 = .ok (.return_, 1) := by decide +kernel
set_option maxRecDepth 20000 in
theorem ggX5_sumOf_X5_item : GoodIn wsX5_sumOf wsX5_item := goodIn_r _ [4] (by decide +kernel) (by decide +kernel)
set_option maxRecDepth 20000 in
theorem gX5_sumOf_X5_item : GoodIn wsX5_sumOf (va_wsS RX5 138 yX5_item wsX5_item) := goodIn_app (goodIn_of _ (by decide +kernel)) ggX5_sumOf_X5_item
theorem dX5_sumOf_0 : decode cX5_sumOf 0 = .ok (.iconst 0, 1) := by decide +kernel
theorem dX5_sumOf_1 : decode cX5_sumOf 1 = .ok (.istore_n 2, 1) := by decide +kernel
theorem dX5_sumOf_2 : decode cX5_sumOf 2 = .ok (.iconst 0, 1) := by decide +kernel
theorem dX5_sumOf_3 : decode cX5_sumOf 3 = .ok (.istore_n 3, 1) := by decide +kernel
theorem dX5_sumOf_4 : decode cX5_sumOf 4 = .ok (.iload_n 3, 1) := by decide +kernel
theorem dX5_sumOf_5 : decode cX5_sumOf 5 = .ok (.iload_n 1, 1) := by decide +kernel
theorem dX5_sumOf_6 : decode cX5_sumOf 6 = .ok (.if_icmp .ge 17, 3) := by decide +kernel
theorem dX5_sumOf_9 : decode cX5_sumOf 9 = .ok (.iload_n 2, 1) := by decide +kernel
theorem dX5_sumOf_10 : decode cX5_sumOf 10 = .ok (.aload_n 0, 1) := by decide +kernel
theorem dX5_sumOf_11 : decode cX5_sumOf 11 = .ok (.iload_n 3, 1) := by decide +kernel
theorem dX5_sumOf_12 : decode cX5_sumOf 12 = .ok (.invokestatic 138, 3) := by decide +kernel
theorem dX5_sumOf_15 : decode cX5_sumOf 15 = .ok (.iadd, 1) := by decide +kernel
theorem dX5_sumOf_16 : decode cX5_sumOf 16 = .ok (.istore_n 2, 1) := by decide +kernel
theorem dX5_sumOf_17 : decode cX5_sumOf 17 = .ok (.iinc 3 1, 3) := by decide +kernel
theorem dX5_sumOf_20 : decode cX5_sumOf 20 = .ok (.goto (-16), 3) := by decide +kernel
theorem dX5_sumOf_23 : decode cX5_sumOf 23 = .ok (.iload_n 2, 1) := by decide +kernel
theorem dX5_sumOf_24 : decode cX5_sumOf 24 = .ok (.ireturn, 1) := by decide +kernel
theorem dX5_keptAt_0 : decode cX5_keptAt 0 = .ok (.iload_n 1, 1) := by decide +kernel
theorem dX5_keptAt_1 : decode cX5_keptAt 1 = .ok (.ifCond .lt 21, 3) := by decide +kernel
theorem dX5_keptAt_4 : decode cX5_keptAt 4 = .ok (.iload_n 1, 1) := by decide +kernel
theorem dX5_keptAt_5 : decode cX5_keptAt 5 = .ok (.aload_n 0, 1) := by decide +kernel
theorem dX5_keptAt_6 : decode cX5_keptAt 6 = .ok (.getfield 37, 3) := by decide +kernel
theorem dX5_keptAt_9 : decode cX5_keptAt 9 = .ok (.arraylength, 1) := by decide +kernel
theorem dX5_keptAt_10 : decode cX5_keptAt 10 = .ok (.if_icmp .ge 12, 3) := by decide +kernel
theorem dX5_keptAt_13 : decode cX5_keptAt 13 = .ok (.aload_n 0, 1) := by decide +kernel
theorem dX5_keptAt_14 : decode cX5_keptAt 14 = .ok (.getfield 37, 3) := by decide +kernel
theorem dX5_keptAt_17 : decode cX5_keptAt 17 = .ok (.iload_n 1, 1) := by decide +kernel
theorem dX5_keptAt_18 : decode cX5_keptAt 18 = .ok (.aaload, 1) := by decide +kernel
theorem dX5_keptAt_19 : decode cX5_keptAt 19 = .ok (.goto 4, 3) := by decide +kernel
theorem dX5_keptAt_22 : decode cX5_keptAt 22 = .ok (.aconst_null, 1) := by decide +kernel
theorem dX5_keptAt_23 : decode cX5_keptAt 23 = .ok (.areturn, 1) := by decide +kernel
set_option maxRecDepth 20000 in
theorem ggX5_deedsKept_X5_keptAt : GoodIn wsX5_deedsKept wsX5_keptAt := goodIn_r _ [5, 6, 22, 23, 24, 25, 26, 27, 28, 29, 30, 31, 32, 33] (by decide +kernel) (by decide +kernel)
set_option maxRecDepth 20000 in
theorem gX5_deedsKept_X5_keptAt : GoodIn wsX5_deedsKept (wsV RX5 119 RX5 yX5_keptAt wsX5_keptAt) := goodIn_app (goodIn_of _ (by decide +kernel)) ggX5_deedsKept_X5_keptAt
theorem dX5_deedsKept_0 : decode cX5_deedsKept 0 = .ok (.aload_n 0, 1) := by decide +kernel
theorem dX5_deedsKept_1 : decode cX5_deedsKept 1 = .ok (.iload_n 1, 1) := by decide +kernel
theorem dX5_deedsKept_2 : decode cX5_deedsKept 2 = .ok (.invokevirtual 119, 3) := by decide +kernel
theorem dX5_deedsKept_5 : decode cX5_deedsKept 5 = .ok (.astore_n 2, 1) := by decide +kernel
theorem dX5_deedsKept_6 : decode cX5_deedsKept 6 = .ok (.aload_n 2, 1) := by decide +kernel
theorem dX5_deedsKept_7 : decode cX5_deedsKept 7 = .ok (.ifnull 10, 3) := by decide +kernel
theorem dX5_deedsKept_10 : decode cX5_deedsKept 10 = .ok (.aload_n 2, 1) := by decide +kernel
theorem dX5_deedsKept_11 : decode cX5_deedsKept 11 = .ok (.getfield 126, 3) := by decide +kernel
theorem dX5_deedsKept_14 : decode cX5_deedsKept 14 = .ok (.ifCond .ne 7, 3) := by decide +kernel
theorem dX5_deedsKept_17 : decode cX5_deedsKept 17 = .ok (.iconst (-1), 1) := by decide +kernel
theorem dX5_deedsKept_18 : decode cX5_deedsKept 18 = .ok (.goto 7, 3) := by decide +kernel
theorem dX5_deedsKept_21 : decode cX5_deedsKept 21 = .ok (.aload_n 2, 1) := by decide +kernel
theorem dX5_deedsKept_22 : decode cX5_deedsKept 22 = .ok (.getfield 170, 3) := by decide +kernel
theorem dX5_deedsKept_25 : decode cX5_deedsKept 25 = .ok (.ireturn, 1) := by decide +kernel
set_option maxRecDepth 20000 in
theorem ggX5_howManyKept_X5_deedsKept : GoodIn wsX5_howManyKept wsX5_deedsKept := goodIn_r _ [6, 7, 8, 9, 5, 10, 1, 23, 24, 25, 26, 27, 28, 29, 30, 31, 32, 33, 34, 35, 36, 37, 11, 12, 13, 14, 15, 16, 17, 18, 19, 20, 21, 22] (by decide +kernel) (by decide +kernel)
set_option maxRecDepth 20000 in
theorem gX5_howManyKept_X5_deedsKept : GoodIn wsX5_howManyKept (wsV RX5 325 RX5 yX5_deedsKept wsX5_deedsKept) := goodIn_app (goodIn_of _ (by decide +kernel)) ggX5_howManyKept_X5_deedsKept
theorem dX5_howManyKept_0 : decode cX5_howManyKept 0 = .ok (.iconst 0, 1) := by decide +kernel
theorem dX5_howManyKept_1 : decode cX5_howManyKept 1 = .ok (.istore_n 1, 1) := by decide +kernel
theorem dX5_howManyKept_2 : decode cX5_howManyKept 2 = .ok (.iconst 0, 1) := by decide +kernel
theorem dX5_howManyKept_3 : decode cX5_howManyKept 3 = .ok (.istore_n 2, 1) := by decide +kernel
theorem dX5_howManyKept_4 : decode cX5_howManyKept 4 = .ok (.iload_n 2, 1) := by decide +kernel
theorem dX5_howManyKept_5 : decode cX5_howManyKept 5 = .ok (.aload_n 0, 1) := by decide +kernel
theorem dX5_howManyKept_6 : decode cX5_howManyKept 6 = .ok (.getfield 37, 3) := by decide +kernel
theorem dX5_howManyKept_9 : decode cX5_howManyKept 9 = .ok (.arraylength, 1) := by decide +kernel
theorem dX5_howManyKept_10 : decode cX5_howManyKept 10 = .ok (.if_icmp .ge 21, 3) := by decide +kernel
theorem dX5_howManyKept_13 : decode cX5_howManyKept 13 = .ok (.aload_n 0, 1) := by decide +kernel
theorem dX5_howManyKept_14 : decode cX5_howManyKept 14 = .ok (.iload_n 2, 1) := by decide +kernel
theorem dX5_howManyKept_15 : decode cX5_howManyKept 15 = .ok (.invokevirtual 325, 3) := by decide +kernel
theorem dX5_howManyKept_18 : decode cX5_howManyKept 18 = .ok (.iconst (-1), 1) := by decide +kernel
theorem dX5_howManyKept_19 : decode cX5_howManyKept 19 = .ok (.if_icmp .eq 6, 3) := by decide +kernel
theorem dX5_howManyKept_22 : decode cX5_howManyKept 22 = .ok (.iinc 1 1, 3) := by decide +kernel
theorem dX5_howManyKept_25 : decode cX5_howManyKept 25 = .ok (.iinc 2 1, 3) := by decide +kernel
theorem dX5_howManyKept_28 : decode cX5_howManyKept 28 = .ok (.goto (-24), 3) := by decide +kernel
theorem dX5_howManyKept_31 : decode cX5_howManyKept 31 = .ok (.iload_n 1, 1) := by decide +kernel
theorem dX5_howManyKept_32 : decode cX5_howManyKept 32 = .ok (.ireturn, 1) := by decide +kernel
set_option maxRecDepth 20000 in
theorem ggX5_faultOf_X4_cellsOf : GoodIn wsX5_faultOf wsX4_cellsOf := goodIn_r _ [7, 8, 9, 10, 11, 6, 12, 13, 90, 91] (by decide +kernel) (by decide +kernel)
set_option maxRecDepth 20000 in
theorem gX5_faultOf_X4_cellsOf : GoodIn wsX5_faultOf (wsV RX5 352 RX4 yX4_cellsOf wsX4_cellsOf) := goodIn_app (goodIn_of _ (by decide +kernel)) ggX5_faultOf_X4_cellsOf
set_option maxRecDepth 20000 in
theorem ggX5_faultOf_X4_sizeOf : GoodIn wsX5_faultOf wsX4_sizeOf := goodIn_r _ [17, 13, 9, 10, 11, 6, 12, 8, 90, 91] (by decide +kernel) (by decide +kernel)
set_option maxRecDepth 20000 in
theorem gX5_faultOf_X4_sizeOf : GoodIn wsX5_faultOf (wsV RX5 106 RX4 yX4_sizeOf wsX4_sizeOf) := goodIn_app (goodIn_of _ (by decide +kernel)) ggX5_faultOf_X4_sizeOf
set_option maxRecDepth 20000 in
theorem ggX5_faultOf_X3_read : GoodIn wsX5_faultOf wsX3_read := goodIn_r _ [22, 23, 24, 25, 26, 27, 28, 29, 30, 31, 32, 33, 34, 35, 36, 37, 38, 39, 40, 41, 42, 43, 21, 44, 45, 46, 47, 48, 49, 50, 51, 52, 53, 54, 55, 56, 57, 58, 59, 60, 61, 62, 63, 64, 65, 66, 67, 68, 69, 70, 71, 72, 73, 74, 75, 76, 77, 92, 93, 94, 95, 96, 97, 98, 99, 100, 101, 102, 103, 104, 105, 106, 107, 108, 109, 110] (by decide +kernel) (by decide +kernel)
set_option maxRecDepth 20000 in
theorem gX5_faultOf_X3_read : GoodIn wsX5_faultOf (wsV RX5 356 RX3 yX3_read wsX3_read) := goodIn_app (goodIn_of _ (by decide +kernel)) ggX5_faultOf_X3_read
theorem dX5_faultOf_0 : decode cX5_faultOf 0 = .ok (.aload_n 0, 1) := by decide +kernel
theorem dX5_faultOf_1 : decode cX5_faultOf 1 = .ok (.getfield 26, 3) := by decide +kernel
theorem dX5_faultOf_4 : decode cX5_faultOf 4 = .ok (.aload_n 0, 1) := by decide +kernel
theorem dX5_faultOf_5 : decode cX5_faultOf 5 = .ok (.getfield 20, 3) := by decide +kernel
theorem dX5_faultOf_8 : decode cX5_faultOf 8 = .ok (.iload_n 1, 1) := by decide +kernel
theorem dX5_faultOf_9 : decode cX5_faultOf 9 = .ok (.invokevirtual 352, 3) := by decide +kernel
theorem dX5_faultOf_12 : decode cX5_faultOf 12 = .ok (.aload_n 0, 1) := by decide +kernel
theorem dX5_faultOf_13 : decode cX5_faultOf 13 = .ok (.getfield 20, 3) := by decide +kernel
theorem dX5_faultOf_16 : decode cX5_faultOf 16 = .ok (.iload_n 1, 1) := by decide +kernel
theorem dX5_faultOf_17 : decode cX5_faultOf 17 = .ok (.invokevirtual 106, 3) := by decide +kernel
theorem dX5_faultOf_20 : decode cX5_faultOf 20 = .ok (.invokevirtual 356, 3) := by decide +kernel
theorem dX5_faultOf_23 : decode cX5_faultOf 23 = .ok (.ireturn, 1) := by decide +kernel
set_option maxRecDepth 20000 in
theorem ggX5_womanFact_X5_item : GoodIn wsX5_womanFact wsX5_item := goodIn_r _ [5] (by decide +kernel) (by decide +kernel)
set_option maxRecDepth 20000 in
theorem gX5_womanFact_X5_item : GoodIn wsX5_womanFact (va_wsS RX5 138 yX5_item wsX5_item) := goodIn_app (goodIn_of _ (by decide +kernel)) ggX5_womanFact_X5_item
set_option maxRecDepth 20000 in
theorem ggX5_womanFact_X0_greatestHemOf : GoodIn wsX5_womanFact wsX0_greatestHemOf := goodIn_r _ [10, 11, 12, 13, 14, 15, 16, 17, 18, 9, 19, 20, 21, 3, 4, 5, 22, 23, 24, 25, 26, 27, 28, 29, 30, 31, 32, 33, 34, 35, 36, 49, 50, 51, 52, 53, 54, 55, 56, 57, 58, 59, 60, 61, 62, 63] (by decide +kernel) (by decide +kernel)
set_option maxRecDepth 20000 in
theorem gX5_womanFact_X0_greatestHemOf : GoodIn wsX5_womanFact (wsV RX5 362 RX0 yX0_greatestHemOf wsX0_greatestHemOf) := goodIn_app (goodIn_of _ (by decide +kernel)) ggX5_womanFact_X0_greatestHemOf
theorem dX5_womanFact_0 : decode cX5_womanFact 0 = .ok (.iload_n 2, 1) := by decide +kernel
theorem dX5_womanFact_1 : decode cX5_womanFact 1 = .ok (.tableswitch 91 0 4 #[35, 47, 59, 71, 83], 35) := by decide +kernel
theorem dX5_womanFact_36 : decode cX5_womanFact 36 = .ok (.aload_n 0, 1) := by decide +kernel
theorem dX5_womanFact_37 : decode cX5_womanFact 37 = .ok (.getfield 33, 3) := by decide +kernel
theorem dX5_womanFact_40 : decode cX5_womanFact 40 = .ok (.getfield 135, 3) := by decide +kernel
theorem dX5_womanFact_43 : decode cX5_womanFact 43 = .ok (.iload_n 1, 1) := by decide +kernel
theorem dX5_womanFact_44 : decode cX5_womanFact 44 = .ok (.invokestatic 138, 3) := by decide +kernel
theorem dX5_womanFact_47 : decode cX5_womanFact 47 = .ok (.ireturn, 1) := by decide +kernel
theorem dX5_womanFact_48 : decode cX5_womanFact 48 = .ok (.aload_n 0, 1) := by decide +kernel
theorem dX5_womanFact_49 : decode cX5_womanFact 49 = .ok (.getfield 33, 3) := by decide +kernel
theorem dX5_womanFact_52 : decode cX5_womanFact 52 = .ok (.getfield 182, 3) := by decide +kernel
theorem dX5_womanFact_55 : decode cX5_womanFact 55 = .ok (.iload_n 1, 1) := by decide +kernel
theorem dX5_womanFact_56 : decode cX5_womanFact 56 = .ok (.invokestatic 138, 3) := by decide +kernel
theorem dX5_womanFact_59 : decode cX5_womanFact 59 = .ok (.ireturn, 1) := by decide +kernel
theorem dX5_womanFact_60 : decode cX5_womanFact 60 = .ok (.aload_n 0, 1) := by decide +kernel
theorem dX5_womanFact_61 : decode cX5_womanFact 61 = .ok (.getfield 33, 3) := by decide +kernel
theorem dX5_womanFact_64 : decode cX5_womanFact 64 = .ok (.getfield 359, 3) := by decide +kernel
theorem dX5_womanFact_67 : decode cX5_womanFact 67 = .ok (.iload_n 1, 1) := by decide +kernel
theorem dX5_womanFact_68 : decode cX5_womanFact 68 = .ok (.invokestatic 138, 3) := by decide +kernel
theorem dX5_womanFact_71 : decode cX5_womanFact 71 = .ok (.ireturn, 1) := by decide +kernel
theorem dX5_womanFact_72 : decode cX5_womanFact 72 = .ok (.aload_n 0, 1) := by decide +kernel
theorem dX5_womanFact_73 : decode cX5_womanFact 73 = .ok (.getfield 33, 3) := by decide +kernel
theorem dX5_womanFact_76 : decode cX5_womanFact 76 = .ok (.getfield 198, 3) := by decide +kernel
theorem dX5_womanFact_79 : decode cX5_womanFact 79 = .ok (.iload_n 1, 1) := by decide +kernel
theorem dX5_womanFact_80 : decode cX5_womanFact 80 = .ok (.invokestatic 138, 3) := by decide +kernel
theorem dX5_womanFact_83 : decode cX5_womanFact 83 = .ok (.ireturn, 1) := by decide +kernel
theorem dX5_womanFact_84 : decode cX5_womanFact 84 = .ok (.aload_n 0, 1) := by decide +kernel
theorem dX5_womanFact_85 : decode cX5_womanFact 85 = .ok (.getfield 33, 3) := by decide +kernel
theorem dX5_womanFact_88 : decode cX5_womanFact 88 = .ok (.getfield 148, 3) := by decide +kernel
theorem dX5_womanFact_91 : decode cX5_womanFact 91 = .ok (.ireturn, 1) := by decide +kernel
theorem dX5_womanFact_92 : decode cX5_womanFact 92 = .ok (.aload_n 0, 1) := by decide +kernel
theorem dX5_womanFact_93 : decode cX5_womanFact 93 = .ok (.getfield 33, 3) := by decide +kernel
theorem dX5_womanFact_96 : decode cX5_womanFact 96 = .ok (.iload_n 1, 1) := by decide +kernel
theorem dX5_womanFact_97 : decode cX5_womanFact 97 = .ok (.invokevirtual 362, 3) := by decide +kernel
theorem dX5_womanFact_100 : decode cX5_womanFact 100 = .ok (.ireturn, 1) := by decide +kernel
set_option maxRecDepth 20000 in
theorem ggX5_greatestPartOfHeights_J7_fill_53178 : GoodIn wsX5_greatestPartOfHeights wsJ7_fill_53178 := goodIn_r _ [10] (by decide +kernel) (by decide +kernel)
set_option maxRecDepth 20000 in
theorem gX5_greatestPartOfHeights_J7_fill_53178 : GoodIn wsX5_greatestPartOfHeights (va_wsS RX5 365 yJ7_fill_53178 wsJ7_fill_53178) := goodIn_app (goodIn_of _ (by decide +kernel)) ggX5_greatestPartOfHeights_J7_fill_53178
set_option maxRecDepth 20000 in
theorem ggX5_greatestPartOfHeights_X5_hasBit : GoodIn wsX5_greatestPartOfHeights wsX5_hasBit := goodIn_r _ [14] (by decide +kernel) (by decide +kernel)
set_option maxRecDepth 20000 in
theorem gX5_greatestPartOfHeights_X5_hasBit : GoodIn wsX5_greatestPartOfHeights (va_wsS RX5 225 yX5_hasBit wsX5_hasBit) := goodIn_app (goodIn_of _ (by decide +kernel)) ggX5_greatestPartOfHeights_X5_hasBit
set_option maxRecDepth 20000 in
theorem ggX5_greatestPartOfHeights_X5_item : GoodIn wsX5_greatestPartOfHeights wsX5_item := goodIn_r _ [17] (by decide +kernel) (by decide +kernel)
set_option maxRecDepth 20000 in
theorem gX5_greatestPartOfHeights_X5_item : GoodIn wsX5_greatestPartOfHeights (va_wsS RX5 138 yX5_item wsX5_item) := goodIn_app (goodIn_of _ (by decide +kernel)) ggX5_greatestPartOfHeights_X5_item
set_option maxRecDepth 20000 in
theorem ggX5_greatestPartOfHeights_X0_hemIfThen : GoodIn wsX5_greatestPartOfHeights wsX0_hemIfThen := goodIn_r _ [22, 23, 24, 4, 5, 6, 25, 26, 16, 13, 17, 27, 28, 29, 30, 31, 32, 33, 34, 54, 55, 56, 57, 58, 59, 60, 61, 62, 63, 64, 65, 66, 67, 68] (by decide +kernel) (by decide +kernel)
set_option maxRecDepth 20000 in
theorem gX5_greatestPartOfHeights_X0_hemIfThen : GoodIn wsX5_greatestPartOfHeights (wsV RX5 371 RX0 yX0_hemIfThen wsX0_hemIfThen) := goodIn_app (goodIn_of _ (by decide +kernel)) ggX5_greatestPartOfHeights_X0_hemIfThen
set_option maxRecDepth 20000 in
theorem ggX5_greatestPartOfHeights_X5_oneMoreAlike : GoodIn wsX5_greatestPartOfHeights wsX5_oneMoreAlike := goodIn_r _ [38, 1, 15, 16, 13, 17, 39, 40, 41, 42, 43, 44, 45, 46, 47, 48, 49, 50, 51, 52, 53] (by decide +kernel) (by decide +kernel)
set_option maxRecDepth 20000 in
theorem gX5_greatestPartOfHeights_X5_oneMoreAlike : GoodIn wsX5_greatestPartOfHeights (wsV RX5 375 RX5 yX5_oneMoreAlike wsX5_oneMoreAlike) := goodIn_app (goodIn_of _ (by decide +kernel)) ggX5_greatestPartOfHeights_X5_oneMoreAlike
theorem dX5_greatestPartOfHeights_0 : decode cX5_greatestPartOfHeights 0 = .ok (.aload_n 0, 1) := by decide +kernel
theorem dX5_greatestPartOfHeights_1 : decode cX5_greatestPartOfHeights 1 = .ok (.getfield 48, 3) := by decide +kernel
theorem dX5_greatestPartOfHeights_4 : decode cX5_greatestPartOfHeights 4 = .ok (.iconst 0, 1) := by decide +kernel
theorem dX5_greatestPartOfHeights_5 : decode cX5_greatestPartOfHeights 5 = .ok (.invokestatic 365, 3) := by decide +kernel
theorem dX5_greatestPartOfHeights_8 : decode cX5_greatestPartOfHeights 8 = .ok (.iconst 0, 1) := by decide +kernel
theorem dX5_greatestPartOfHeights_9 : decode cX5_greatestPartOfHeights 9 = .ok (.istore 4, 2) := by decide +kernel
theorem dX5_greatestPartOfHeights_11 : decode cX5_greatestPartOfHeights 11 = .ok (.iconst 0, 1) := by decide +kernel
theorem dX5_greatestPartOfHeights_12 : decode cX5_greatestPartOfHeights 12 = .ok (.istore 5, 2) := by decide +kernel
theorem dX5_greatestPartOfHeights_14 : decode cX5_greatestPartOfHeights 14 = .ok (.iload 5, 2) := by decide +kernel
theorem dX5_greatestPartOfHeights_16 : decode cX5_greatestPartOfHeights 16 = .ok (.bipush 20, 2) := by decide +kernel
theorem dX5_greatestPartOfHeights_18 : decode cX5_greatestPartOfHeights 18 = .ok (.if_icmp .gt 51, 3) := by decide +kernel
theorem dX5_greatestPartOfHeights_21 : decode cX5_greatestPartOfHeights 21 = .ok (.iload_n 3, 1) := by decide +kernel
theorem dX5_greatestPartOfHeights_22 : decode cX5_greatestPartOfHeights 22 = .ok (.iload 5, 2) := by decide +kernel
theorem dX5_greatestPartOfHeights_24 : decode cX5_greatestPartOfHeights 24 = .ok (.invokestatic 225, 3) := by decide +kernel
theorem dX5_greatestPartOfHeights_27 : decode cX5_greatestPartOfHeights 27 = .ok (.ifCond .eq 36, 3) := by decide +kernel
theorem dX5_greatestPartOfHeights_30 : decode cX5_greatestPartOfHeights 30 = .ok (.iload 4, 2) := by decide +kernel
theorem dX5_greatestPartOfHeights_32 : decode cX5_greatestPartOfHeights 32 = .ok (.aload_n 0, 1) := by decide +kernel
theorem dX5_greatestPartOfHeights_33 : decode cX5_greatestPartOfHeights 33 = .ok (.aload_n 0, 1) := by decide +kernel
theorem dX5_greatestPartOfHeights_34 : decode cX5_greatestPartOfHeights 34 = .ok (.getfield 33, 3) := by decide +kernel
theorem dX5_greatestPartOfHeights_37 : decode cX5_greatestPartOfHeights 37 = .ok (.iload_n 1, 1) := by decide +kernel
theorem dX5_greatestPartOfHeights_38 : decode cX5_greatestPartOfHeights 38 = .ok (.iload_n 2, 1) := by decide +kernel
theorem dX5_greatestPartOfHeights_39 : decode cX5_greatestPartOfHeights 39 = .ok (.iload 5, 2) := by decide +kernel
theorem dX5_greatestPartOfHeights_41 : decode cX5_greatestPartOfHeights 41 = .ok (.aload_n 0, 1) := by decide +kernel
theorem dX5_greatestPartOfHeights_42 : decode cX5_greatestPartOfHeights 42 = .ok (.getfield 33, 3) := by decide +kernel
theorem dX5_greatestPartOfHeights_45 : decode cX5_greatestPartOfHeights 45 = .ok (.getfield 135, 3) := by decide +kernel
theorem dX5_greatestPartOfHeights_48 : decode cX5_greatestPartOfHeights 48 = .ok (.iload_n 1, 1) := by decide +kernel
theorem dX5_greatestPartOfHeights_49 : decode cX5_greatestPartOfHeights 49 = .ok (.invokestatic 138, 3) := by decide +kernel
theorem dX5_greatestPartOfHeights_52 : decode cX5_greatestPartOfHeights 52 = .ok (.invokevirtual 371, 3) := by decide +kernel
theorem dX5_greatestPartOfHeights_55 : decode cX5_greatestPartOfHeights 55 = .ok (.invokevirtual 375, 3) := by decide +kernel
theorem dX5_greatestPartOfHeights_58 : decode cX5_greatestPartOfHeights 58 = .ok (.invokestatic 266, 3) := by decide +kernel
theorem dX5_greatestPartOfHeights_61 : decode cX5_greatestPartOfHeights 61 = .ok (.istore 4, 2) := by decide +kernel
theorem dX5_greatestPartOfHeights_63 : decode cX5_greatestPartOfHeights 63 = .ok (.iinc 5 1, 3) := by decide +kernel
theorem dX5_greatestPartOfHeights_66 : decode cX5_greatestPartOfHeights 66 = .ok (.goto (-52), 3) := by decide +kernel
theorem dX5_greatestPartOfHeights_69 : decode cX5_greatestPartOfHeights 69 = .ok (.iload 4, 2) := by decide +kernel
theorem dX5_greatestPartOfHeights_71 : decode cX5_greatestPartOfHeights 71 = .ok (.ireturn, 1) := by decide +kernel
set_option maxRecDepth 20000 in
theorem ggX5_greatestPartOfKinds_J7_fill_53178 : GoodIn wsX5_greatestPartOfKinds wsJ7_fill_53178 := goodIn_r _ [10] (by decide +kernel) (by decide +kernel)
set_option maxRecDepth 20000 in
theorem gX5_greatestPartOfKinds_J7_fill_53178 : GoodIn wsX5_greatestPartOfKinds (va_wsS RX5 365 yJ7_fill_53178 wsJ7_fill_53178) := goodIn_app (goodIn_of _ (by decide +kernel)) ggX5_greatestPartOfKinds_J7_fill_53178
set_option maxRecDepth 20000 in
theorem ggX5_greatestPartOfKinds_X5_hasBit : GoodIn wsX5_greatestPartOfKinds wsX5_hasBit := goodIn_r _ [14] (by decide +kernel) (by decide +kernel)
set_option maxRecDepth 20000 in
theorem gX5_greatestPartOfKinds_X5_hasBit : GoodIn wsX5_greatestPartOfKinds (va_wsS RX5 225 yX5_hasBit wsX5_hasBit) := goodIn_app (goodIn_of _ (by decide +kernel)) ggX5_greatestPartOfKinds_X5_hasBit
set_option maxRecDepth 20000 in
theorem ggX5_greatestPartOfKinds_X0_hemIfNow : GoodIn wsX5_greatestPartOfKinds wsX0_hemIfNow := goodIn_r _ [19, 20, 21, 22, 23, 24, 25, 18, 26, 27, 4, 5, 6, 28, 29, 30, 31, 32, 33, 34, 13, 35, 36, 37, 38, 39, 40, 41, 42, 43, 64, 65, 66, 67, 68, 69, 70, 71, 72, 73, 74, 75, 76, 77, 78] (by decide +kernel) (by decide +kernel)
set_option maxRecDepth 20000 in
theorem gX5_greatestPartOfKinds_X0_hemIfNow : GoodIn wsX5_greatestPartOfKinds (wsV RX5 166 RX0 yX0_hemIfNow wsX0_hemIfNow) := goodIn_app (goodIn_of _ (by decide +kernel)) ggX5_greatestPartOfKinds_X0_hemIfNow
set_option maxRecDepth 20000 in
theorem ggX5_greatestPartOfKinds_X5_oneMoreAlike : GoodIn wsX5_greatestPartOfKinds wsX5_oneMoreAlike := goodIn_r _ [47, 1, 48, 34, 13, 35, 49, 50, 51, 52, 53, 54, 55, 56, 57, 58, 59, 60, 61, 62, 63] (by decide +kernel) (by decide +kernel)
set_option maxRecDepth 20000 in
theorem gX5_greatestPartOfKinds_X5_oneMoreAlike : GoodIn wsX5_greatestPartOfKinds (wsV RX5 375 RX5 yX5_oneMoreAlike wsX5_oneMoreAlike) := goodIn_app (goodIn_of _ (by decide +kernel)) ggX5_greatestPartOfKinds_X5_oneMoreAlike
theorem dX5_greatestPartOfKinds_0 : decode cX5_greatestPartOfKinds 0 = .ok (.aload_n 0, 1) := by decide +kernel
theorem dX5_greatestPartOfKinds_1 : decode cX5_greatestPartOfKinds 1 = .ok (.getfield 48, 3) := by decide +kernel
theorem dX5_greatestPartOfKinds_4 : decode cX5_greatestPartOfKinds 4 = .ok (.iconst 0, 1) := by decide +kernel
theorem dX5_greatestPartOfKinds_5 : decode cX5_greatestPartOfKinds 5 = .ok (.invokestatic 365, 3) := by decide +kernel
theorem dX5_greatestPartOfKinds_8 : decode cX5_greatestPartOfKinds 8 = .ok (.iconst 0, 1) := by decide +kernel
theorem dX5_greatestPartOfKinds_9 : decode cX5_greatestPartOfKinds 9 = .ok (.istore 4, 2) := by decide +kernel
theorem dX5_greatestPartOfKinds_11 : decode cX5_greatestPartOfKinds 11 = .ok (.iconst 0, 1) := by decide +kernel
theorem dX5_greatestPartOfKinds_12 : decode cX5_greatestPartOfKinds 12 = .ok (.istore 5, 2) := by decide +kernel
theorem dX5_greatestPartOfKinds_14 : decode cX5_greatestPartOfKinds 14 = .ok (.iload 5, 2) := by decide +kernel
theorem dX5_greatestPartOfKinds_16 : decode cX5_greatestPartOfKinds 16 = .ok (.bipush 6, 2) := by decide +kernel
theorem dX5_greatestPartOfKinds_18 : decode cX5_greatestPartOfKinds 18 = .ok (.if_icmp .ge 40, 3) := by decide +kernel
theorem dX5_greatestPartOfKinds_21 : decode cX5_greatestPartOfKinds 21 = .ok (.iload_n 3, 1) := by decide +kernel
theorem dX5_greatestPartOfKinds_22 : decode cX5_greatestPartOfKinds 22 = .ok (.iload 5, 2) := by decide +kernel
theorem dX5_greatestPartOfKinds_24 : decode cX5_greatestPartOfKinds 24 = .ok (.invokestatic 225, 3) := by decide +kernel
theorem dX5_greatestPartOfKinds_27 : decode cX5_greatestPartOfKinds 27 = .ok (.ifCond .eq 25, 3) := by decide +kernel
theorem dX5_greatestPartOfKinds_30 : decode cX5_greatestPartOfKinds 30 = .ok (.iload 4, 2) := by decide +kernel
theorem dX5_greatestPartOfKinds_32 : decode cX5_greatestPartOfKinds 32 = .ok (.aload_n 0, 1) := by decide +kernel
theorem dX5_greatestPartOfKinds_33 : decode cX5_greatestPartOfKinds 33 = .ok (.aload_n 0, 1) := by decide +kernel
theorem dX5_greatestPartOfKinds_34 : decode cX5_greatestPartOfKinds 34 = .ok (.getfield 33, 3) := by decide +kernel
theorem dX5_greatestPartOfKinds_37 : decode cX5_greatestPartOfKinds 37 = .ok (.iload_n 1, 1) := by decide +kernel
theorem dX5_greatestPartOfKinds_38 : decode cX5_greatestPartOfKinds 38 = .ok (.iload_n 2, 1) := by decide +kernel
theorem dX5_greatestPartOfKinds_39 : decode cX5_greatestPartOfKinds 39 = .ok (.iload 5, 2) := by decide +kernel
theorem dX5_greatestPartOfKinds_41 : decode cX5_greatestPartOfKinds 41 = .ok (.invokevirtual 166, 3) := by decide +kernel
theorem dX5_greatestPartOfKinds_44 : decode cX5_greatestPartOfKinds 44 = .ok (.invokevirtual 375, 3) := by decide +kernel
theorem dX5_greatestPartOfKinds_47 : decode cX5_greatestPartOfKinds 47 = .ok (.invokestatic 266, 3) := by decide +kernel
theorem dX5_greatestPartOfKinds_50 : decode cX5_greatestPartOfKinds 50 = .ok (.istore 4, 2) := by decide +kernel
theorem dX5_greatestPartOfKinds_52 : decode cX5_greatestPartOfKinds 52 = .ok (.iinc 5 1, 3) := by decide +kernel
theorem dX5_greatestPartOfKinds_55 : decode cX5_greatestPartOfKinds 55 = .ok (.goto (-41), 3) := by decide +kernel
theorem dX5_greatestPartOfKinds_58 : decode cX5_greatestPartOfKinds 58 = .ok (.iload 4, 2) := by decide +kernel
theorem dX5_greatestPartOfKinds_60 : decode cX5_greatestPartOfKinds 60 = .ok (.ireturn, 1) := by decide +kernel
set_option maxRecDepth 20000 in
theorem ggX5_oneMoreAlike_X5_item : GoodIn wsX5_oneMoreAlike wsX5_item := goodIn_r _ [5] (by decide +kernel) (by decide +kernel)
set_option maxRecDepth 20000 in
theorem gX5_oneMoreAlike_X5_item : GoodIn wsX5_oneMoreAlike (va_wsS RX5 138 yX5_item wsX5_item) := goodIn_app (goodIn_of _ (by decide +kernel)) ggX5_oneMoreAlike_X5_item
set_option maxRecDepth 20000 in
theorem ggX5_oneMoreAlike_X5_setItem : GoodIn wsX5_oneMoreAlike wsX5_setItem := goodIn_r _ [8] (by decide +kernel) (by decide +kernel)
set_option maxRecDepth 20000 in
theorem gX5_oneMoreAlike_X5_setItem : GoodIn wsX5_oneMoreAlike (va_wsS RX5 332 yX5_setItem wsX5_setItem) := goodIn_app (goodIn_of _ (by decide +kernel)) ggX5_oneMoreAlike_X5_setItem
theorem dX5_oneMoreAlike_0 : decode cX5_oneMoreAlike 0 = .ok (.aload_n 0, 1) := by decide +kernel
theorem dX5_oneMoreAlike_1 : decode cX5_oneMoreAlike 1 = .ok (.getfield 48, 3) := by decide +kernel
theorem dX5_oneMoreAlike_4 : decode cX5_oneMoreAlike 4 = .ok (.iload_n 1, 1) := by decide +kernel
theorem dX5_oneMoreAlike_5 : decode cX5_oneMoreAlike 5 = .ok (.invokestatic 138, 3) := by decide +kernel
theorem dX5_oneMoreAlike_8 : decode cX5_oneMoreAlike 8 = .ok (.iconst 1, 1) := by decide +kernel
theorem dX5_oneMoreAlike_9 : decode cX5_oneMoreAlike 9 = .ok (.iadd, 1) := by decide +kernel
theorem dX5_oneMoreAlike_10 : decode cX5_oneMoreAlike 10 = .ok (.istore_n 2, 1) := by decide +kernel
theorem dX5_oneMoreAlike_11 : decode cX5_oneMoreAlike 11 = .ok (.aload_n 0, 1) := by decide +kernel
theorem dX5_oneMoreAlike_12 : decode cX5_oneMoreAlike 12 = .ok (.getfield 48, 3) := by decide +kernel
theorem dX5_oneMoreAlike_15 : decode cX5_oneMoreAlike 15 = .ok (.iload_n 1, 1) := by decide +kernel
theorem dX5_oneMoreAlike_16 : decode cX5_oneMoreAlike 16 = .ok (.iload_n 2, 1) := by decide +kernel
theorem dX5_oneMoreAlike_17 : decode cX5_oneMoreAlike 17 = .ok (.invokestatic 332, 3) := by decide +kernel
theorem dX5_oneMoreAlike_20 : decode cX5_oneMoreAlike 20 = .ok (.iload_n 2, 1) := by decide +kernel
theorem dX5_oneMoreAlike_21 : decode cX5_oneMoreAlike 21 = .ok (.ireturn, 1) := by decide +kernel
set_option maxRecDepth 20000 in
theorem ggX5_kindsBy_X5_pairsFit : GoodIn wsX5_kindsBy wsX5_pairsFit := goodIn_r _ [5, 6, 7, 8, 9, 10, 11, 12, 13, 14, 15, 16, 17, 18, 19, 20, 21, 22, 23, 24, 25, 26, 27, 28, 29, 30, 31, 32, 4, 33, 34, 35, 36, 37, 38, 39, 40, 41, 42, 43, 44, 45, 46, 47, 48, 49, 50, 51, 52, 53, 54, 55, 56, 57, 58, 59, 60, 61, 62, 63, 64, 65, 66, 67, 68, 69, 70, 71, 72, 73, 74, 75, 76, 77, 78, 79, 80, 81, 82, 83, 84, 85, 86, 87, 88, 89, 90, 91, 92] (by decide +kernel) (by decide +kernel)
set_option maxRecDepth 20000 in
theorem gX5_kindsBy_X5_pairsFit : GoodIn wsX5_kindsBy (wsV RX5 378 RX5 yX5_pairsFit wsX5_pairsFit) := goodIn_app (goodIn_of _ (by decide +kernel)) ggX5_kindsBy_X5_pairsFit
theorem dX5_kindsBy_0 : decode cX5_kindsBy 0 = .ok (.iconst 0, 1) := by decide +kernel
theorem dX5_kindsBy_1 : decode cX5_kindsBy 1 = .ok (.istore_n 3, 1) := by decide +kernel
theorem dX5_kindsBy_2 : decode cX5_kindsBy 2 = .ok (.iconst 0, 1) := by decide +kernel
theorem dX5_kindsBy_3 : decode cX5_kindsBy 3 = .ok (.istore 4, 2) := by decide +kernel
theorem dX5_kindsBy_5 : decode cX5_kindsBy 5 = .ok (.iload 4, 2) := by decide +kernel
theorem dX5_kindsBy_7 : decode cX5_kindsBy 7 = .ok (.bipush 6, 2) := by decide +kernel
theorem dX5_kindsBy_9 : decode cX5_kindsBy 9 = .ok (.if_icmp .ge 27, 3) := by decide +kernel
theorem dX5_kindsBy_12 : decode cX5_kindsBy 12 = .ok (.aload_n 0, 1) := by decide +kernel
theorem dX5_kindsBy_13 : decode cX5_kindsBy 13 = .ok (.iload_n 1, 1) := by decide +kernel
theorem dX5_kindsBy_14 : decode cX5_kindsBy 14 = .ok (.iload_n 2, 1) := by decide +kernel
theorem dX5_kindsBy_15 : decode cX5_kindsBy 15 = .ok (.iload 4, 2) := by decide +kernel
theorem dX5_kindsBy_17 : decode cX5_kindsBy 17 = .ok (.invokevirtual 378, 3) := by decide +kernel
theorem dX5_kindsBy_20 : decode cX5_kindsBy 20 = .ok (.ifCond .eq 10, 3) := by decide +kernel
theorem dX5_kindsBy_23 : decode cX5_kindsBy 23 = .ok (.iload_n 3, 1) := by decide +kernel
theorem dX5_kindsBy_24 : decode cX5_kindsBy 24 = .ok (.iconst 1, 1) := by decide +kernel
theorem dX5_kindsBy_25 : decode cX5_kindsBy 25 = .ok (.iload 4, 2) := by decide +kernel
theorem dX5_kindsBy_27 : decode cX5_kindsBy 27 = .ok (.ishl, 1) := by decide +kernel
theorem dX5_kindsBy_28 : decode cX5_kindsBy 28 = .ok (.ior, 1) := by decide +kernel
theorem dX5_kindsBy_29 : decode cX5_kindsBy 29 = .ok (.istore_n 3, 1) := by decide +kernel
theorem dX5_kindsBy_30 : decode cX5_kindsBy 30 = .ok (.iinc 4 1, 3) := by decide +kernel
theorem dX5_kindsBy_33 : decode cX5_kindsBy 33 = .ok (.goto (-28), 3) := by decide +kernel
theorem dX5_kindsBy_36 : decode cX5_kindsBy 36 = .ok (.iload_n 3, 1) := by decide +kernel
theorem dX5_kindsBy_37 : decode cX5_kindsBy 37 = .ok (.ireturn, 1) := by decide +kernel
set_option maxRecDepth 20000 in
theorem ggX5_pairsFit_X4_sizeOf : GoodIn wsX5_pairsFit wsX4_sizeOf := goodIn_r _ [7, 8, 9, 10, 11, 6, 12, 13, 72, 73] (by decide +kernel) (by decide +kernel)
set_option maxRecDepth 20000 in
theorem gX5_pairsFit_X4_sizeOf : GoodIn wsX5_pairsFit (wsV RX5 106 RX4 yX4_sizeOf wsX4_sizeOf) := goodIn_app (goodIn_of _ (by decide +kernel)) ggX5_pairsFit_X4_sizeOf
set_option maxRecDepth 20000 in
theorem ggX5_pairsFit_X4_cell : GoodIn wsX5_pairsFit wsX4_cell := goodIn_r _ [17, 18, 19, 20, 6, 21, 22, 4, 5, 7, 8, 9, 10, 11, 12, 13, 23, 24, 25, 26, 27, 28, 29, 72, 73] (by decide +kernel) (by decide +kernel)
set_option maxRecDepth 20000 in
theorem gX5_pairsFit_X4_cell : GoodIn wsX5_pairsFit (wsV RX5 67 RX4 yX4_cell wsX4_cell) := goodIn_app (goodIn_of _ (by decide +kernel)) ggX5_pairsFit_X4_cell
set_option maxRecDepth 20000 in
theorem ggX5_pairsFit_X0_hemIfNow : GoodIn wsX5_pairsFit wsX0_hemIfNow := goodIn_r _ [34, 35, 36, 37, 38, 39, 40, 33, 41, 42, 43, 44, 45, 46, 47, 48, 49, 50, 51, 27, 28, 29, 52, 53, 54, 55, 56, 57, 58, 59, 74, 75, 76, 77, 78, 79, 80, 81, 82, 83, 84, 85, 86, 87, 88] (by decide +kernel) (by decide +kernel)
set_option maxRecDepth 20000 in
theorem gX5_pairsFit_X0_hemIfNow : GoodIn wsX5_pairsFit (wsV RX5 166 RX0 yX0_hemIfNow wsX0_hemIfNow) := goodIn_app (goodIn_of _ (by decide +kernel)) ggX5_pairsFit_X0_hemIfNow
theorem dX5_pairsFit_0 : decode cX5_pairsFit 0 = .ok (.aload_n 0, 1) := by decide +kernel
theorem dX5_pairsFit_1 : decode cX5_pairsFit 1 = .ok (.getfield 16, 3) := by decide +kernel
theorem dX5_pairsFit_4 : decode cX5_pairsFit 4 = .ok (.iload_n 2, 1) := by decide +kernel
theorem dX5_pairsFit_5 : decode cX5_pairsFit 5 = .ok (.invokevirtual 106, 3) := by decide +kernel
theorem dX5_pairsFit_8 : decode cX5_pairsFit 8 = .ok (.istore 4, 2) := by decide +kernel
theorem dX5_pairsFit_10 : decode cX5_pairsFit 10 = .ok (.iconst 0, 1) := by decide +kernel
theorem dX5_pairsFit_11 : decode cX5_pairsFit 11 = .ok (.istore 5, 2) := by decide +kernel
theorem dX5_pairsFit_13 : decode cX5_pairsFit 13 = .ok (.iload 5, 2) := by decide +kernel
theorem dX5_pairsFit_15 : decode cX5_pairsFit 15 = .ok (.iconst 1, 1) := by decide +kernel
theorem dX5_pairsFit_16 : decode cX5_pairsFit 16 = .ok (.iadd, 1) := by decide +kernel
theorem dX5_pairsFit_17 : decode cX5_pairsFit 17 = .ok (.iload 4, 2) := by decide +kernel
theorem dX5_pairsFit_19 : decode cX5_pairsFit 19 = .ok (.if_icmp .ge 45, 3) := by decide +kernel
theorem dX5_pairsFit_22 : decode cX5_pairsFit 22 = .ok (.aload_n 0, 1) := by decide +kernel
theorem dX5_pairsFit_23 : decode cX5_pairsFit 23 = .ok (.getfield 33, 3) := by decide +kernel
theorem dX5_pairsFit_26 : decode cX5_pairsFit 26 = .ok (.iload_n 1, 1) := by decide +kernel
theorem dX5_pairsFit_27 : decode cX5_pairsFit 27 = .ok (.aload_n 0, 1) := by decide +kernel
theorem dX5_pairsFit_28 : decode cX5_pairsFit 28 = .ok (.getfield 16, 3) := by decide +kernel
theorem dX5_pairsFit_31 : decode cX5_pairsFit 31 = .ok (.iload_n 2, 1) := by decide +kernel
theorem dX5_pairsFit_32 : decode cX5_pairsFit 32 = .ok (.iload 5, 2) := by decide +kernel
theorem dX5_pairsFit_34 : decode cX5_pairsFit 34 = .ok (.invokevirtual 67, 3) := by decide +kernel
theorem dX5_pairsFit_37 : decode cX5_pairsFit 37 = .ok (.iload_n 3, 1) := by decide +kernel
theorem dX5_pairsFit_38 : decode cX5_pairsFit 38 = .ok (.invokevirtual 166, 3) := by decide +kernel
theorem dX5_pairsFit_41 : decode cX5_pairsFit 41 = .ok (.aload_n 0, 1) := by decide +kernel
theorem dX5_pairsFit_42 : decode cX5_pairsFit 42 = .ok (.getfield 16, 3) := by decide +kernel
theorem dX5_pairsFit_45 : decode cX5_pairsFit 45 = .ok (.iload_n 2, 1) := by decide +kernel
theorem dX5_pairsFit_46 : decode cX5_pairsFit 46 = .ok (.iload 5, 2) := by decide +kernel
theorem dX5_pairsFit_48 : decode cX5_pairsFit 48 = .ok (.iconst 1, 1) := by decide +kernel
theorem dX5_pairsFit_49 : decode cX5_pairsFit 49 = .ok (.iadd, 1) := by decide +kernel
theorem dX5_pairsFit_50 : decode cX5_pairsFit 50 = .ok (.invokevirtual 67, 3) := by decide +kernel
theorem dX5_pairsFit_53 : decode cX5_pairsFit 53 = .ok (.if_icmp .eq 5, 3) := by decide +kernel
theorem dX5_pairsFit_56 : decode cX5_pairsFit 56 = .ok (.iconst 0, 1) := by decide +kernel
theorem dX5_pairsFit_57 : decode cX5_pairsFit 57 = .ok (.ireturn, 1) := by decide +kernel
theorem dX5_pairsFit_58 : decode cX5_pairsFit 58 = .ok (.iinc 5 2, 3) := by decide +kernel
theorem dX5_pairsFit_61 : decode cX5_pairsFit 61 = .ok (.goto (-48), 3) := by decide +kernel
theorem dX5_pairsFit_64 : decode cX5_pairsFit 64 = .ok (.iconst 1, 1) := by decide +kernel
theorem dX5_pairsFit_65 : decode cX5_pairsFit 65 = .ok (.ireturn, 1) := by decide +kernel
set_option maxRecDepth 20000 in
theorem ggX5_hemsBeginAs_X4_sizeOf : GoodIn wsX5_hemsBeginAs wsX4_sizeOf := goodIn_r _ [7, 8, 9, 10, 11, 6, 12, 13, 68, 69] (by decide +kernel) (by decide +kernel)
set_option maxRecDepth 20000 in
theorem gX5_hemsBeginAs_X4_sizeOf : GoodIn wsX5_hemsBeginAs (wsV RX5 106 RX4 yX4_sizeOf wsX4_sizeOf) := goodIn_app (goodIn_of _ (by decide +kernel)) ggX5_hemsBeginAs_X4_sizeOf
set_option maxRecDepth 20000 in
theorem ggX5_hemsBeginAs_X0_hemOf : GoodIn wsX5_hemsBeginAs wsX0_hemOf := goodIn_r _ [18, 19, 20, 21, 22, 23, 24, 25, 26, 17, 27, 28, 29, 30, 31, 32, 33, 34, 35, 36, 37, 38, 39, 40, 41, 42, 70, 71, 72, 73, 74, 75, 76, 77, 78, 79, 80, 81, 82, 83, 84] (by decide +kernel) (by decide +kernel)
set_option maxRecDepth 20000 in
theorem gX5_hemsBeginAs_X0_hemOf : GoodIn wsX5_hemsBeginAs (wsV RX5 151 RX0 yX0_hemOf wsX0_hemOf) := goodIn_app (goodIn_of _ (by decide +kernel)) ggX5_hemsBeginAs_X0_hemOf
set_option maxRecDepth 20000 in
theorem ggX5_hemsBeginAs_X4_cell : GoodIn wsX5_hemsBeginAs wsX4_cell := goodIn_r _ [46, 47, 48, 49, 6, 50, 51, 4, 5, 7, 8, 9, 10, 11, 12, 13, 52, 53, 54, 55, 21, 22, 23, 68, 69] (by decide +kernel) (by decide +kernel)
set_option maxRecDepth 20000 in
theorem gX5_hemsBeginAs_X4_cell : GoodIn wsX5_hemsBeginAs (wsV RX5 67 RX4 yX4_cell wsX4_cell) := goodIn_app (goodIn_of _ (by decide +kernel)) ggX5_hemsBeginAs_X4_cell
theorem dX5_hemsBeginAs_0 : decode cX5_hemsBeginAs 0 = .ok (.aload_n 0, 1) := by decide +kernel
theorem dX5_hemsBeginAs_1 : decode cX5_hemsBeginAs 1 = .ok (.getfield 16, 3) := by decide +kernel
theorem dX5_hemsBeginAs_4 : decode cX5_hemsBeginAs 4 = .ok (.iload_n 2, 1) := by decide +kernel
theorem dX5_hemsBeginAs_5 : decode cX5_hemsBeginAs 5 = .ok (.invokevirtual 106, 3) := by decide +kernel
theorem dX5_hemsBeginAs_8 : decode cX5_hemsBeginAs 8 = .ok (.istore_n 3, 1) := by decide +kernel
theorem dX5_hemsBeginAs_9 : decode cX5_hemsBeginAs 9 = .ok (.iconst 0, 1) := by decide +kernel
theorem dX5_hemsBeginAs_10 : decode cX5_hemsBeginAs 10 = .ok (.istore 4, 2) := by decide +kernel
theorem dX5_hemsBeginAs_12 : decode cX5_hemsBeginAs 12 = .ok (.iload 4, 2) := by decide +kernel
theorem dX5_hemsBeginAs_14 : decode cX5_hemsBeginAs 14 = .ok (.iload_n 3, 1) := by decide +kernel
theorem dX5_hemsBeginAs_15 : decode cX5_hemsBeginAs 15 = .ok (.if_icmp .ge 34, 3) := by decide +kernel
theorem dX5_hemsBeginAs_18 : decode cX5_hemsBeginAs 18 = .ok (.aload_n 0, 1) := by decide +kernel
theorem dX5_hemsBeginAs_19 : decode cX5_hemsBeginAs 19 = .ok (.getfield 33, 3) := by decide +kernel
theorem dX5_hemsBeginAs_22 : decode cX5_hemsBeginAs 22 = .ok (.iload_n 1, 1) := by decide +kernel
theorem dX5_hemsBeginAs_23 : decode cX5_hemsBeginAs 23 = .ok (.iload 4, 2) := by decide +kernel
theorem dX5_hemsBeginAs_25 : decode cX5_hemsBeginAs 25 = .ok (.invokevirtual 151, 3) := by decide +kernel
theorem dX5_hemsBeginAs_28 : decode cX5_hemsBeginAs 28 = .ok (.aload_n 0, 1) := by decide +kernel
theorem dX5_hemsBeginAs_29 : decode cX5_hemsBeginAs 29 = .ok (.getfield 16, 3) := by decide +kernel
theorem dX5_hemsBeginAs_32 : decode cX5_hemsBeginAs 32 = .ok (.iload_n 2, 1) := by decide +kernel
theorem dX5_hemsBeginAs_33 : decode cX5_hemsBeginAs 33 = .ok (.iload 4, 2) := by decide +kernel
theorem dX5_hemsBeginAs_35 : decode cX5_hemsBeginAs 35 = .ok (.invokevirtual 67, 3) := by decide +kernel
theorem dX5_hemsBeginAs_38 : decode cX5_hemsBeginAs 38 = .ok (.if_icmp .eq 5, 3) := by decide +kernel
theorem dX5_hemsBeginAs_41 : decode cX5_hemsBeginAs 41 = .ok (.iconst 0, 1) := by decide +kernel
theorem dX5_hemsBeginAs_42 : decode cX5_hemsBeginAs 42 = .ok (.ireturn, 1) := by decide +kernel
theorem dX5_hemsBeginAs_43 : decode cX5_hemsBeginAs 43 = .ok (.iinc 4 1, 3) := by decide +kernel
theorem dX5_hemsBeginAs_46 : decode cX5_hemsBeginAs 46 = .ok (.goto (-34), 3) := by decide +kernel
theorem dX5_hemsBeginAs_49 : decode cX5_hemsBeginAs 49 = .ok (.iconst 1, 1) := by decide +kernel
theorem dX5_hemsBeginAs_50 : decode cX5_hemsBeginAs 50 = .ok (.ireturn, 1) := by decide +kernel
set_option maxRecDepth 20000 in
theorem ggX5_doByLot_X0_doFlood : GoodIn wsX5_doByLot wsX0_doFlood := goodIn_r _ [11, 12, 13, 14, 15, 16, 17, 18, 19, 20, 10, 21, 22, 23, 24, 25, 26, 27, 28, 29, 30, 31, 32, 33, 34, 35, 36, 53, 54, 55, 56, 57, 58, 59, 60, 61, 62, 63, 64, 65, 66, 67] (by decide +kernel) (by decide +kernel)
set_option maxRecDepth 20000 in
theorem gX5_doByLot_X0_doFlood : GoodIn wsX5_doByLot (wsV RX5 173 RX0 yX0_doFlood wsX0_doFlood) := goodIn_app (goodIn_of _ (by decide +kernel)) ggX5_doByLot_X0_doFlood
set_option maxRecDepth 20000 in
theorem ggX5_doByLot_X0_doMove : GoodIn wsX5_doByLot wsX0_doMove := goodIn_r _ [40, 34, 35, 27, 36, 18, 19, 20, 10, 21, 22, 23, 24, 25, 26, 28, 53, 54, 55, 56, 57, 58, 59, 60, 61, 62, 63, 64, 65, 66, 67] (by decide +kernel) (by decide +kernel)
set_option maxRecDepth 20000 in
theorem gX5_doByLot_X0_doMove : GoodIn wsX5_doByLot (wsV RX5 185 RX0 yX0_doMove wsX0_doMove) := goodIn_app (goodIn_of _ (by decide +kernel)) ggX5_doByLot_X0_doMove
theorem dX5_doByLot_0 : decode cX5_doByLot 0 = .ok (.lload_n 1, 1) := by decide +kernel
theorem dX5_doByLot_1 : decode cX5_doByLot 1 = .ok (.ldc2_w 381, 3) := by decide +kernel
theorem dX5_doByLot_4 : decode cX5_doByLot 4 = .ok (.lrem, 1) := by decide +kernel
theorem dX5_doByLot_5 : decode cX5_doByLot 5 = .ok (.lconst 0, 1) := by decide +kernel
theorem dX5_doByLot_6 : decode cX5_doByLot 6 = .ok (.lcmp, 1) := by decide +kernel
theorem dX5_doByLot_7 : decode cX5_doByLot 7 = .ok (.ifCond .ne 35, 3) := by decide +kernel
theorem dX5_doByLot_10 : decode cX5_doByLot 10 = .ok (.aload_n 0, 1) := by decide +kernel
theorem dX5_doByLot_11 : decode cX5_doByLot 11 = .ok (.getfield 33, 3) := by decide +kernel
theorem dX5_doByLot_14 : decode cX5_doByLot 14 = .ok (.getfield 148, 3) := by decide +kernel
theorem dX5_doByLot_17 : decode cX5_doByLot 17 = .ok (.bipush 8, 2) := by decide +kernel
theorem dX5_doByLot_19 : decode cX5_doByLot 19 = .ok (.if_icmp .ge 23, 3) := by decide +kernel
theorem dX5_doByLot_22 : decode cX5_doByLot 22 = .ok (.aload_n 0, 1) := by decide +kernel
theorem dX5_doByLot_23 : decode cX5_doByLot 23 = .ok (.getfield 33, 3) := by decide +kernel
theorem dX5_doByLot_26 : decode cX5_doByLot 26 = .ok (.lload_n 1, 1) := by decide +kernel
theorem dX5_doByLot_27 : decode cX5_doByLot 27 = .ok (.ldc2_w 383, 3) := by decide +kernel
theorem dX5_doByLot_30 : decode cX5_doByLot 30 = .ok (.ldiv, 1) := by decide +kernel
theorem dX5_doByLot_31 : decode cX5_doByLot 31 = .ok (.ldc2_w 385, 3) := by decide +kernel
theorem dX5_doByLot_34 : decode cX5_doByLot 34 = .ok (.lrem, 1) := by decide +kernel
theorem dX5_doByLot_35 : decode cX5_doByLot 35 = .ok (.l2i, 1) := by decide +kernel
theorem dX5_doByLot_36 : decode cX5_doByLot 36 = .ok (.invokevirtual 173, 3) := by decide +kernel
theorem dX5_doByLot_39 : decode cX5_doByLot 39 = .ok (.goto 45, 3) := by decide +kernel
theorem dX5_doByLot_42 : decode cX5_doByLot 42 = .ok (.aload_n 0, 1) := by decide +kernel
theorem dX5_doByLot_43 : decode cX5_doByLot 43 = .ok (.getfield 33, 3) := by decide +kernel
theorem dX5_doByLot_46 : decode cX5_doByLot 46 = .ok (.getfield 126, 3) := by decide +kernel
theorem dX5_doByLot_49 : decode cX5_doByLot 49 = .ok (.ifCond .le 35, 3) := by decide +kernel
theorem dX5_doByLot_52 : decode cX5_doByLot 52 = .ok (.aload_n 0, 1) := by decide +kernel
theorem dX5_doByLot_53 : decode cX5_doByLot 53 = .ok (.getfield 33, 3) := by decide +kernel
theorem dX5_doByLot_56 : decode cX5_doByLot 56 = .ok (.lload_n 1, 1) := by decide +kernel
theorem dX5_doByLot_57 : decode cX5_doByLot 57 = .ok (.ldc2_w 383, 3) := by decide +kernel
theorem dX5_doByLot_60 : decode cX5_doByLot 60 = .ok (.ldiv, 1) := by decide +kernel
theorem dX5_doByLot_61 : decode cX5_doByLot 61 = .ok (.aload_n 0, 1) := by decide +kernel
theorem dX5_doByLot_62 : decode cX5_doByLot 62 = .ok (.getfield 33, 3) := by decide +kernel
theorem dX5_doByLot_65 : decode cX5_doByLot 65 = .ok (.getfield 126, 3) := by decide +kernel
theorem dX5_doByLot_68 : decode cX5_doByLot 68 = .ok (.i2l, 1) := by decide +kernel
theorem dX5_doByLot_69 : decode cX5_doByLot 69 = .ok (.lrem, 1) := by decide +kernel
theorem dX5_doByLot_70 : decode cX5_doByLot 70 = .ok (.l2i, 1) := by decide +kernel
theorem dX5_doByLot_71 : decode cX5_doByLot 71 = .ok (.lload_n 1, 1) := by decide +kernel
theorem dX5_doByLot_72 : decode cX5_doByLot 72 = .ok (.ldc2_w 387, 3) := by decide +kernel
theorem dX5_doByLot_75 : decode cX5_doByLot 75 = .ok (.ldiv, 1) := by decide +kernel
theorem dX5_doByLot_76 : decode cX5_doByLot 76 = .ok (.ldc2_w 389, 3) := by decide +kernel
theorem dX5_doByLot_79 : decode cX5_doByLot 79 = .ok (.lrem, 1) := by decide +kernel
theorem dX5_doByLot_80 : decode cX5_doByLot 80 = .ok (.l2i, 1) := by decide +kernel
theorem dX5_doByLot_81 : decode cX5_doByLot 81 = .ok (.invokevirtual 185, 3) := by decide +kernel
theorem dX5_doByLot_84 : decode cX5_doByLot 84 = .ok (.return_, 1) := by decide +kernel
theorem dX5_mixed_0 : decode cX5_mixed 0 = .ok (.ldc2_w 391, 3) := by decide +kernel
theorem dX5_mixed_3 : decode cX5_mixed 3 = .ok (.lload_n 0, 1) := by decide +kernel
theorem dX5_mixed_4 : decode cX5_mixed 4 = .ok (.lmul, 1) := by decide +kernel
theorem dX5_mixed_5 : decode cX5_mixed 5 = .ok (.iload_n 2, 1) := by decide +kernel
theorem dX5_mixed_6 : decode cX5_mixed 6 = .ok (.i2l, 1) := by decide +kernel
theorem dX5_mixed_7 : decode cX5_mixed 7 = .ok (.ladd, 1) := by decide +kernel
theorem dX5_mixed_8 : decode cX5_mixed 8 = .ok (.lreturn, 1) := by decide +kernel
set_option maxRecDepth 20000 in
theorem ggX5_mixedWoman_X5_womanFact : GoodIn wsX5_mixedWoman wsX5_womanFact := goodIn_r _ [6, 1, 7, 8, 5, 9, 10, 11, 12, 13, 14, 15, 16, 17, 18, 19, 20, 21, 22, 23, 24, 25, 26, 27, 28, 29, 30, 31, 32, 33, 34, 35, 36, 37, 38, 39, 40, 46, 47, 48, 49, 50, 51, 52, 53, 54, 55, 56, 57, 58, 59, 60, 61, 62, 63, 64, 65, 66, 67, 68, 69, 70, 71, 72] (by decide +kernel) (by decide +kernel)
set_option maxRecDepth 20000 in
theorem gX5_mixedWoman_X5_womanFact : GoodIn wsX5_mixedWoman (wsV RX5 132 RX5 yX5_womanFact wsX5_womanFact) := goodIn_app (goodIn_of _ (by decide +kernel)) ggX5_mixedWoman_X5_womanFact
set_option maxRecDepth 20000 in
theorem ggX5_mixedWoman_X5_mixed : GoodIn wsX5_mixedWoman wsX5_mixed := goodIn_r _ [43, 44] (by decide +kernel) (by decide +kernel)
set_option maxRecDepth 20000 in
theorem gX5_mixedWoman_X5_mixed : GoodIn wsX5_mixedWoman (va_wsS RX5 318 yX5_mixed wsX5_mixed) := goodIn_app (goodIn_of _ (by decide +kernel)) ggX5_mixedWoman_X5_mixed
set_option maxRecDepth 20000 in
theorem ggX5_mixedWoman_X0_hemOf : GoodIn wsX5_mixedWoman wsX0_hemOf := goodIn_r _ [23, 24, 25, 8, 5, 9, 26, 27, 28, 13, 29, 30, 16, 17, 18, 19, 31, 32, 33, 34, 35, 36, 37, 38, 39, 40, 58, 59, 60, 61, 62, 63, 64, 65, 66, 67, 68, 69, 70, 71, 72] (by decide +kernel) (by decide +kernel)
set_option maxRecDepth 20000 in
theorem gX5_mixedWoman_X0_hemOf : GoodIn wsX5_mixedWoman (wsV RX5 151 RX0 yX0_hemOf wsX0_hemOf) := goodIn_app (goodIn_of _ (by decide +kernel)) ggX5_mixedWoman_X0_hemOf
theorem dX5_mixedWoman_0 : decode cX5_mixedWoman 0 = .ok (.iconst 0, 1) := by decide +kernel
theorem dX5_mixedWoman_1 : decode cX5_mixedWoman 1 = .ok (.istore 4, 2) := by decide +kernel
theorem dX5_mixedWoman_3 : decode cX5_mixedWoman 3 = .ok (.iload 4, 2) := by decide +kernel
theorem dX5_mixedWoman_5 : decode cX5_mixedWoman 5 = .ok (.bipush 6, 2) := by decide +kernel
theorem dX5_mixedWoman_7 : decode cX5_mixedWoman 7 = .ok (.if_icmp .ge 21, 3) := by decide +kernel
theorem dX5_mixedWoman_10 : decode cX5_mixedWoman 10 = .ok (.lload_n 1, 1) := by decide +kernel
theorem dX5_mixedWoman_11 : decode cX5_mixedWoman 11 = .ok (.aload_n 0, 1) := by decide +kernel
theorem dX5_mixedWoman_12 : decode cX5_mixedWoman 12 = .ok (.iload_n 3, 1) := by decide +kernel
theorem dX5_mixedWoman_13 : decode cX5_mixedWoman 13 = .ok (.iload 4, 2) := by decide +kernel
theorem dX5_mixedWoman_15 : decode cX5_mixedWoman 15 = .ok (.invokevirtual 132, 3) := by decide +kernel
theorem dX5_mixedWoman_18 : decode cX5_mixedWoman 18 = .ok (.invokestatic 318, 3) := by decide +kernel
theorem dX5_mixedWoman_21 : decode cX5_mixedWoman 21 = .ok (.lstore_n 1, 1) := by decide +kernel
theorem dX5_mixedWoman_22 : decode cX5_mixedWoman 22 = .ok (.iinc 4 1, 3) := by decide +kernel
theorem dX5_mixedWoman_25 : decode cX5_mixedWoman 25 = .ok (.goto (-22), 3) := by decide +kernel
theorem dX5_mixedWoman_28 : decode cX5_mixedWoman 28 = .ok (.iconst 0, 1) := by decide +kernel
theorem dX5_mixedWoman_29 : decode cX5_mixedWoman 29 = .ok (.istore 4, 2) := by decide +kernel
theorem dX5_mixedWoman_31 : decode cX5_mixedWoman 31 = .ok (.iload 4, 2) := by decide +kernel
theorem dX5_mixedWoman_33 : decode cX5_mixedWoman 33 = .ok (.aload_n 0, 1) := by decide +kernel
theorem dX5_mixedWoman_34 : decode cX5_mixedWoman 34 = .ok (.getfield 33, 3) := by decide +kernel
theorem dX5_mixedWoman_37 : decode cX5_mixedWoman 37 = .ok (.getfield 148, 3) := by decide +kernel
theorem dX5_mixedWoman_40 : decode cX5_mixedWoman 40 = .ok (.if_icmp .ge 24, 3) := by decide +kernel
theorem dX5_mixedWoman_43 : decode cX5_mixedWoman 43 = .ok (.lload_n 1, 1) := by decide +kernel
theorem dX5_mixedWoman_44 : decode cX5_mixedWoman 44 = .ok (.aload_n 0, 1) := by decide +kernel
theorem dX5_mixedWoman_45 : decode cX5_mixedWoman 45 = .ok (.getfield 33, 3) := by decide +kernel
theorem dX5_mixedWoman_48 : decode cX5_mixedWoman 48 = .ok (.iload_n 3, 1) := by decide +kernel
theorem dX5_mixedWoman_49 : decode cX5_mixedWoman 49 = .ok (.iload 4, 2) := by decide +kernel
theorem dX5_mixedWoman_51 : decode cX5_mixedWoman 51 = .ok (.invokevirtual 151, 3) := by decide +kernel
theorem dX5_mixedWoman_54 : decode cX5_mixedWoman 54 = .ok (.invokestatic 318, 3) := by decide +kernel
theorem dX5_mixedWoman_57 : decode cX5_mixedWoman 57 = .ok (.lstore_n 1, 1) := by decide +kernel
theorem dX5_mixedWoman_58 : decode cX5_mixedWoman 58 = .ok (.iinc 4 1, 3) := by decide +kernel
theorem dX5_mixedWoman_61 : decode cX5_mixedWoman 61 = .ok (.goto (-30), 3) := by decide +kernel
theorem dX5_mixedWoman_64 : decode cX5_mixedWoman 64 = .ok (.lload_n 1, 1) := by decide +kernel
theorem dX5_mixedWoman_65 : decode cX5_mixedWoman 65 = .ok (.lreturn, 1) := by decide +kernel
set_option maxRecDepth 20000 in
theorem ggX5_mixedShelf_X4_sizeOf : GoodIn wsX5_mixedShelf wsX4_sizeOf := goodIn_r _ [5, 6, 7, 8, 9, 4, 10, 11, 32, 33] (by decide +kernel) (by decide +kernel)
set_option maxRecDepth 20000 in
theorem gX5_mixedShelf_X4_sizeOf : GoodIn wsX5_mixedShelf (wsV RX5 106 RX4 yX4_sizeOf wsX4_sizeOf) := goodIn_app (goodIn_of _ (by decide +kernel)) ggX5_mixedShelf_X4_sizeOf
set_option maxRecDepth 20000 in
theorem ggX5_mixedShelf_X5_mixed : GoodIn wsX5_mixedShelf wsX5_mixed := goodIn_r _ [15, 16] (by decide +kernel) (by decide +kernel)
set_option maxRecDepth 20000 in
theorem gX5_mixedShelf_X5_mixed : GoodIn wsX5_mixedShelf (va_wsS RX5 318 yX5_mixed wsX5_mixed) := goodIn_app (goodIn_of _ (by decide +kernel)) ggX5_mixedShelf_X5_mixed
set_option maxRecDepth 20000 in
theorem ggX5_mixedShelf_X4_cell : GoodIn wsX5_mixedShelf wsX4_cell := goodIn_r _ [20, 21, 22, 23, 4, 24, 25, 2, 3, 5, 6, 7, 8, 9, 10, 11, 26, 27, 28, 29, 30, 14, 31, 32, 33] (by decide +kernel) (by decide +kernel)
set_option maxRecDepth 20000 in
theorem gX5_mixedShelf_X4_cell : GoodIn wsX5_mixedShelf (wsV RX5 67 RX4 yX4_cell wsX4_cell) := goodIn_app (goodIn_of _ (by decide +kernel)) ggX5_mixedShelf_X4_cell
theorem dX5_mixedShelf_0 : decode cX5_mixedShelf 0 = .ok (.iconst 0, 1) := by decide +kernel
theorem dX5_mixedShelf_1 : decode cX5_mixedShelf 1 = .ok (.istore_n 3, 1) := by decide +kernel
theorem dX5_mixedShelf_2 : decode cX5_mixedShelf 2 = .ok (.iload_n 3, 1) := by decide +kernel
theorem dX5_mixedShelf_3 : decode cX5_mixedShelf 3 = .ok (.aload_n 2, 1) := by decide +kernel
theorem dX5_mixedShelf_4 : decode cX5_mixedShelf 4 = .ok (.getfield 393, 3) := by decide +kernel
theorem dX5_mixedShelf_7 : decode cX5_mixedShelf 7 = .ok (.arraylength, 1) := by decide +kernel
theorem dX5_mixedShelf_8 : decode cX5_mixedShelf 8 = .ok (.if_icmp .ge 51, 3) := by decide +kernel
theorem dX5_mixedShelf_11 : decode cX5_mixedShelf 11 = .ok (.aload_n 2, 1) := by decide +kernel
theorem dX5_mixedShelf_12 : decode cX5_mixedShelf 12 = .ok (.iload_n 3, 1) := by decide +kernel
theorem dX5_mixedShelf_13 : decode cX5_mixedShelf 13 = .ok (.invokevirtual 106, 3) := by decide +kernel
theorem dX5_mixedShelf_16 : decode cX5_mixedShelf 16 = .ok (.istore 4, 2) := by decide +kernel
theorem dX5_mixedShelf_18 : decode cX5_mixedShelf 18 = .ok (.lload_n 0, 1) := by decide +kernel
theorem dX5_mixedShelf_19 : decode cX5_mixedShelf 19 = .ok (.iload 4, 2) := by decide +kernel
theorem dX5_mixedShelf_21 : decode cX5_mixedShelf 21 = .ok (.invokestatic 318, 3) := by decide +kernel
theorem dX5_mixedShelf_24 : decode cX5_mixedShelf 24 = .ok (.lstore_n 0, 1) := by decide +kernel
theorem dX5_mixedShelf_25 : decode cX5_mixedShelf 25 = .ok (.iconst 0, 1) := by decide +kernel
theorem dX5_mixedShelf_26 : decode cX5_mixedShelf 26 = .ok (.istore 5, 2) := by decide +kernel
theorem dX5_mixedShelf_28 : decode cX5_mixedShelf 28 = .ok (.iload 5, 2) := by decide +kernel
theorem dX5_mixedShelf_30 : decode cX5_mixedShelf 30 = .ok (.iload 4, 2) := by decide +kernel
theorem dX5_mixedShelf_32 : decode cX5_mixedShelf 32 = .ok (.if_icmp .ge 21, 3) := by decide +kernel
theorem dX5_mixedShelf_35 : decode cX5_mixedShelf 35 = .ok (.lload_n 0, 1) := by decide +kernel
theorem dX5_mixedShelf_36 : decode cX5_mixedShelf 36 = .ok (.aload_n 2, 1) := by decide +kernel
theorem dX5_mixedShelf_37 : decode cX5_mixedShelf 37 = .ok (.iload_n 3, 1) := by decide +kernel
theorem dX5_mixedShelf_38 : decode cX5_mixedShelf 38 = .ok (.iload 5, 2) := by decide +kernel
theorem dX5_mixedShelf_40 : decode cX5_mixedShelf 40 = .ok (.invokevirtual 67, 3) := by decide +kernel
theorem dX5_mixedShelf_43 : decode cX5_mixedShelf 43 = .ok (.invokestatic 318, 3) := by decide +kernel
theorem dX5_mixedShelf_46 : decode cX5_mixedShelf 46 = .ok (.lstore_n 0, 1) := by decide +kernel
theorem dX5_mixedShelf_47 : decode cX5_mixedShelf 47 = .ok (.iinc 5 1, 3) := by decide +kernel
theorem dX5_mixedShelf_50 : decode cX5_mixedShelf 50 = .ok (.goto (-22), 3) := by decide +kernel
theorem dX5_mixedShelf_53 : decode cX5_mixedShelf 53 = .ok (.iinc 3 1, 3) := by decide +kernel
theorem dX5_mixedShelf_56 : decode cX5_mixedShelf 56 = .ok (.goto (-54), 3) := by decide +kernel
theorem dX5_mixedShelf_59 : decode cX5_mixedShelf 59 = .ok (.lload_n 0, 1) := by decide +kernel
theorem dX5_mixedShelf_60 : decode cX5_mixedShelf 60 = .ok (.lreturn, 1) := by decide +kernel
