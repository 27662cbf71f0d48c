theorem dX3_insert_30 : decode cX3_insert 30 = .ok (.iconst 1, 1) := by decide +kernel
theorem dX3_insert_31 : decode cX3_insert 31 = .ok (.iadd, 1) := by decide +kernel
theorem dX3_insert_32 : decode cX3_insert 32 = .ok (.aload_n 0, 1) := by decide +kernel
theorem dX3_insert_33 : decode cX3_insert 33 = .ok (.getfield 9, 3) := by decide +kernel
theorem dX3_insert_36 : decode cX3_insert 36 = .ok (.iload 5, 2) := by decide +kernel
theorem dX3_insert_38 : decode cX3_insert 38 = .ok (.isub, 1) := by decide +kernel
theorem dX3_insert_39 : decode cX3_insert 39 = .ok (.invokestatic 65, 3) := by decide +kernel
theorem dX3_insert_42 : decode cX3_insert 42 = .ok (.aload_n 0, 1) := by decide +kernel
theorem dX3_insert_43 : decode cX3_insert 43 = .ok (.getfield 23, 3) := by decide +kernel
theorem dX3_insert_46 : decode cX3_insert 46 = .ok (.iload 5, 2) := by decide +kernel
theorem dX3_insert_48 : decode cX3_insert 48 = .ok (.aload_n 0, 1) := by decide +kernel
theorem dX3_insert_49 : decode cX3_insert 49 = .ok (.getfield 23, 3) := by decide +kernel
theorem dX3_insert_52 : decode cX3_insert 52 = .ok (.iload 5, 2) := by decide +kernel
theorem dX3_insert_54 : decode cX3_insert 54 = .ok (.iconst 1, 1) := by decide +kernel
theorem dX3_insert_55 : decode cX3_insert 55 = .ok (.iadd, 1) := by decide +kernel
theorem dX3_insert_56 : decode cX3_insert 56 = .ok (.aload_n 0, 1) := by decide +kernel
theorem dX3_insert_57 : decode cX3_insert 57 = .ok (.getfield 9, 3) := by decide +kernel
theorem dX3_insert_60 : decode cX3_insert 60 = .ok (.iload 5, 2) := by decide +kernel
theorem dX3_insert_62 : decode cX3_insert 62 = .ok (.isub, 1) := by decide +kernel
theorem dX3_insert_63 : decode cX3_insert 63 = .ok (.invokestatic 65, 3) := by decide +kernel
theorem dX3_insert_66 : decode cX3_insert 66 = .ok (.aload_n 0, 1) := by decide +kernel
theorem dX3_insert_67 : decode cX3_insert 67 = .ok (.getfield 27, 3) := by decide +kernel
theorem dX3_insert_70 : decode cX3_insert 70 = .ok (.iload 5, 2) := by decide +kernel
theorem dX3_insert_72 : decode cX3_insert 72 = .ok (.aload_n 0, 1) := by decide +kernel
theorem dX3_insert_73 : decode cX3_insert 73 = .ok (.getfield 27, 3) := by decide +kernel
theorem dX3_insert_76 : decode cX3_insert 76 = .ok (.iload 5, 2) := by decide +kernel
theorem dX3_insert_78 : decode cX3_insert 78 = .ok (.iconst 1, 1) := by decide +kernel
theorem dX3_insert_79 : decode cX3_insert 79 = .ok (.iadd, 1) := by decide +kernel
theorem dX3_insert_80 : decode cX3_insert 80 = .ok (.aload_n 0, 1) := by decide +kernel
theorem dX3_insert_81 : decode cX3_insert 81 = .ok (.getfield 9, 3) := by decide +kernel
theorem dX3_insert_84 : decode cX3_insert 84 = .ok (.iload 5, 2) := by decide +kernel
theorem dX3_insert_86 : decode cX3_insert 86 = .ok (.isub, 1) := by decide +kernel
theorem dX3_insert_87 : decode cX3_insert 87 = .ok (.invokestatic 65, 3) := by decide +kernel
theorem dX3_insert_90 : decode cX3_insert 90 = .ok (.aload_n 0, 1) := by decide +kernel
theorem dX3_insert_91 : decode cX3_insert 91 = .ok (.getfield 19, 3) := by decide +kernel
theorem dX3_insert_94 : decode cX3_insert 94 = .ok (.iload 5, 2) := by decide +kernel
theorem dX3_insert_96 : decode cX3_insert 96 = .ok (.lload_n 1, 1) := by decide +kernel
theorem dX3_insert_97 : decode cX3_insert 97 = .ok (.lastore, 1) := by decide +kernel
theorem dX3_insert_98 : decode cX3_insert 98 = .ok (.aload_n 0, 1) := by decide +kernel
theorem dX3_insert_99 : decode cX3_insert 99 = .ok (.getfield 23, 3) := by decide +kernel
theorem dX3_insert_102 : decode cX3_insert 102 = .ok (.iload 5, 2) := by decide +kernel
theorem dX3_insert_104 : decode cX3_insert 104 = .ok (.iload_n 3, 1) := by decide +kernel
theorem dX3_insert_105 : decode cX3_insert 105 = .ok (.iastore, 1) := by decide +kernel
theorem dX3_insert_106 : decode cX3_insert 106 = .ok (.aload_n 0, 1) := by decide +kernel
theorem dX3_insert_107 : decode cX3_insert 107 = .ok (.getfield 27, 3) := by decide +kernel
theorem dX3_insert_110 : decode cX3_insert 110 = .ok (.iload 5, 2) := by decide +kernel
theorem dX3_insert_112 : decode cX3_insert 112 = .ok (.iload 4, 2) := by decide +kernel
theorem dX3_insert_114 : decode cX3_insert 114 = .ok (.iastore, 1) := by decide +kernel
theorem dX3_insert_115 : decode cX3_insert 115 = .ok (.aload_n 0, 1) := by decide +kernel
theorem dX3_insert_116 : decode cX3_insert 116 = .ok (.dup, 1) := by decide +kernel
theorem dX3_insert_117 : decode cX3_insert 117 = .ok (.getfield 9, 3) := by decide +kernel
theorem dX3_insert_120 : decode cX3_insert 120 = .ok (.iconst 1, 1) := by decide +kernel
theorem dX3_insert_121 : decode cX3_insert 121 = .ok (.iadd, 1) := by decide +kernel
theorem dX3_insert_122 : decode cX3_insert 122 = .ok (.putfield 9, 3) := by decide +kernel
theorem dX3_insert_125 : decode cX3_insert 125 = .ok (.return_, 1) := by decide +kernel
set_option maxRecDepth 20000 in
theorem ggX3_placeFor_X3_isAhead : GoodIn wsX3_placeFor wsX3_isAhead := goodIn_r _ [7, 8, 9, 10, 11, 12, 13, 14, 15, 16, 17, 18, 19, 20, 21, 22, 23, 24, 25] (by decide +kernel) (by decide +kernel)
set_option maxRecDepth 20000 in
theorem gX3_placeFor_X3_isAhead : GoodIn wsX3_placeFor (wsV RX3 71 RX3 yX3_isAhead wsX3_isAhead) := goodIn_app (goodIn_of _ (by decide +kernel)) ggX3_placeFor_X3_isAhead
theorem dX3_placeFor_0 : decode cX3_placeFor 0 = .ok (.iconst 0, 1) := by decide +kernel
theorem dX3_placeFor_1 : decode cX3_placeFor 1 = .ok (.istore_n 3, 1) := by decide +kernel
theorem dX3_placeFor_2 : decode cX3_placeFor 2 = .ok (.aload_n 0, 1) := by decide +kernel
theorem dX3_placeFor_3 : decode cX3_placeFor 3 = .ok (.getfield 9, 3) := by decide +kernel
theorem dX3_placeFor_6 : decode cX3_placeFor 6 = .ok (.istore 4, 2) := by decide +kernel
theorem dX3_placeFor_8 : decode cX3_placeFor 8 = .ok (.iconst 0, 1) := by decide +kernel
theorem dX3_placeFor_9 : decode cX3_placeFor 9 = .ok (.istore 5, 2) := by decide +kernel
theorem dX3_placeFor_11 : decode cX3_placeFor 11 = .ok (.iload 5, 2) := by decide +kernel
theorem dX3_placeFor_13 : decode cX3_placeFor 13 = .ok (.sipush 535, 3) := by decide +kernel
theorem dX3_placeFor_16 : decode cX3_placeFor 16 = .ok (.if_icmp .ge 50, 3) := by decide +kernel
theorem dX3_placeFor_19 : decode cX3_placeFor 19 = .ok (.iload_n 3, 1) := by decide +kernel
theorem dX3_placeFor_20 : decode cX3_placeFor 20 = .ok (.iload 4, 2) := by decide +kernel
theorem dX3_placeFor_22 : decode cX3_placeFor 22 = .ok (.if_icmp .ge 44, 3) := by decide +kernel
theorem dX3_placeFor_25 : decode cX3_placeFor 25 = .ok (.iload_n 3, 1) := by decide +kernel
theorem dX3_placeFor_26 : decode cX3_placeFor 26 = .ok (.iload 4, 2) := by decide +kernel
theorem dX3_placeFor_28 : decode cX3_placeFor 28 = .ok (.iadd, 1) := by decide +kernel
theorem dX3_placeFor_29 : decode cX3_placeFor 29 = .ok (.iconst 2, 1) := by decide +kernel
theorem dX3_placeFor_30 : decode cX3_placeFor 30 = .ok (.idiv, 1) := by decide +kernel
theorem dX3_placeFor_31 : decode cX3_placeFor 31 = .ok (.istore 6, 2) := by decide +kernel
theorem dX3_placeFor_33 : decode cX3_placeFor 33 = .ok (.aload_n 0, 1) := by decide +kernel
theorem dX3_placeFor_34 : decode cX3_placeFor 34 = .ok (.lload_n 1, 1) := by decide +kernel
theorem dX3_placeFor_35 : decode cX3_placeFor 35 = .ok (.aload_n 0, 1) := by decide +kernel
theorem dX3_placeFor_36 : decode cX3_placeFor 36 = .ok (.getfield 19, 3) := by decide +kernel
theorem dX3_placeFor_39 : decode cX3_placeFor 39 = .ok (.iload 6, 2) := by decide +kernel
theorem dX3_placeFor_41 : decode cX3_placeFor 41 = .ok (.laload, 1) := by decide +kernel
theorem dX3_placeFor_42 : decode cX3_placeFor 42 = .ok (.invokevirtual 71, 3) := by decide +kernel
theorem dX3_placeFor_45 : decode cX3_placeFor 45 = .ok (.ifCond .eq 10, 3) := by decide +kernel
theorem dX3_placeFor_48 : decode cX3_placeFor 48 = .ok (.iload 6, 2) := by decide +kernel
theorem dX3_placeFor_50 : decode cX3_placeFor 50 = .ok (.istore 4, 2) := by decide +kernel
theorem dX3_placeFor_52 : decode cX3_placeFor 52 = .ok (.goto 8, 3) := by decide +kernel
theorem dX3_placeFor_55 : decode cX3_placeFor 55 = .ok (.iload 6, 2) := by decide +kernel
theorem dX3_placeFor_57 : decode cX3_placeFor 57 = .ok (.iconst 1, 1) := by decide +kernel
theorem dX3_placeFor_58 : decode cX3_placeFor 58 = .ok (.iadd, 1) := by decide +kernel
theorem dX3_placeFor_59 : decode cX3_placeFor 59 = .ok (.istore_n 3, 1) := by decide +kernel
theorem dX3_placeFor_60 : decode cX3_placeFor 60 = .ok (.iinc 5 1, 3) := by decide +kernel
theorem dX3_placeFor_63 : decode cX3_placeFor 63 = .ok (.goto (-52), 3) := by decide +kernel
theorem dX3_placeFor_66 : decode cX3_placeFor 66 = .ok (.iload_n 3, 1) := by decide +kernel
theorem dX3_placeFor_67 : decode cX3_placeFor 67 = .ok (.ireturn, 1) := by decide +kernel
set_option maxRecDepth 20000 in
theorem ggX3_isAhead_J13_bitCount_95d88 : GoodIn wsX3_isAhead wsJ13_bitCount_95d88 := goodIn_r _ [5, 6, 7, 8] (by decide +kernel) (by decide +kernel)
set_option maxRecDepth 20000 in
theorem gX3_isAhead_J13_bitCount_95d88 : GoodIn wsX3_isAhead (va_wsS RX3 40 yJ13_bitCount_95d88 wsJ13_bitCount_95d88) := goodIn_app (goodIn_of _ (by decide +kernel)) ggX3_isAhead_J13_bitCount_95d88
set_option maxRecDepth 20000 in
theorem ggX3_isAhead_X4_boundAbove : GoodIn wsX3_isAhead wsX4_boundAbove := goodIn_r _ [11] (by decide +kernel) (by decide +kernel)
set_option maxRecDepth 20000 in
theorem gX3_isAhead_X4_boundAbove_n75 : GoodIn wsX3_isAhead (wsX4_boundAbove) := ggX3_isAhead_X4_boundAbove
set_option maxRecDepth 20000 in
theorem ggX3_isAhead_X4_boundBelow : GoodIn wsX3_isAhead wsX4_boundBelow := goodIn_r _ [13] (by decide +kernel) (by decide +kernel)
set_option maxRecDepth 20000 in
theorem gX3_isAhead_X4_boundBelow_n78 : GoodIn wsX3_isAhead (wsX4_boundBelow) := ggX3_isAhead_X4_boundBelow
theorem dX3_isAhead_0 : decode cX3_isAhead 0 = .ok (.lload_n 1, 1) := by decide +kernel
theorem dX3_isAhead_1 : decode cX3_isAhead 1 = .ok (.invokestatic 40, 3) := by decide +kernel
theorem dX3_isAhead_4 : decode cX3_isAhead 4 = .ok (.istore 5, 2) := by decide +kernel
theorem dX3_isAhead_6 : decode cX3_isAhead 6 = .ok (.lload_n 3, 1) := by decide +kernel
theorem dX3_isAhead_7 : decode cX3_isAhead 7 = .ok (.invokestatic 40, 3) := by decide +kernel
theorem dX3_isAhead_10 : decode cX3_isAhead 10 = .ok (.istore 6, 2) := by decide +kernel
theorem dX3_isAhead_12 : decode cX3_isAhead 12 = .ok (.lload_n 1, 1) := by decide +kernel
theorem dX3_isAhead_13 : decode cX3_isAhead 13 = .ok (.aload_n 0, 1) := by decide +kernel
theorem dX3_isAhead_14 : decode cX3_isAhead 14 = .ok (.getfield 15, 3) := by decide +kernel
theorem dX3_isAhead_17 : decode cX3_isAhead 17 = .ok (.land, 1) := by decide +kernel
theorem dX3_isAhead_18 : decode cX3_isAhead 18 = .ok (.invokestatic 40, 3) := by decide +kernel
theorem dX3_isAhead_21 : decode cX3_isAhead 21 = .ok (.invokestatic 75, 3) := by decide +kernel
theorem dX3_isAhead_24 : decode cX3_isAhead 24 = .ok (.iload 6, 2) := by decide +kernel
theorem dX3_isAhead_26 : decode cX3_isAhead 26 = .ok (.invokestatic 78, 3) := by decide +kernel
theorem dX3_isAhead_29 : decode cX3_isAhead 29 = .ok (.imul, 1) := by decide +kernel
theorem dX3_isAhead_30 : decode cX3_isAhead 30 = .ok (.istore 7, 2) := by decide +kernel
theorem dX3_isAhead_32 : decode cX3_isAhead 32 = .ok (.lload_n 3, 1) := by decide +kernel
theorem dX3_isAhead_33 : decode cX3_isAhead 33 = .ok (.aload_n 0, 1) := by decide +kernel
theorem dX3_isAhead_34 : decode cX3_isAhead 34 = .ok (.getfield 15, 3) := by decide +kernel
theorem dX3_isAhead_37 : decode cX3_isAhead 37 = .ok (.land, 1) := by decide +kernel
theorem dX3_isAhead_38 : decode cX3_isAhead 38 = .ok (.invokestatic 40, 3) := by decide +kernel
theorem dX3_isAhead_41 : decode cX3_isAhead 41 = .ok (.invokestatic 75, 3) := by decide +kernel
theorem dX3_isAhead_44 : decode cX3_isAhead 44 = .ok (.iload 5, 2) := by decide +kernel
theorem dX3_isAhead_46 : decode cX3_isAhead 46 = .ok (.invokestatic 78, 3) := by decide +kernel
theorem dX3_isAhead_49 : decode cX3_isAhead 49 = .ok (.imul, 1) := by decide +kernel
theorem dX3_isAhead_50 : decode cX3_isAhead 50 = .ok (.istore 8, 2) := by decide +kernel
theorem dX3_isAhead_52 : decode cX3_isAhead 52 = .ok (.iload 7, 2) := by decide +kernel
theorem dX3_isAhead_54 : decode cX3_isAhead 54 = .ok (.iload 8, 2) := by decide +kernel
theorem dX3_isAhead_56 : decode cX3_isAhead 56 = .ok (.if_icmp .lt 17, 3) := by decide +kernel
theorem dX3_isAhead_59 : decode cX3_isAhead 59 = .ok (.iload 7, 2) := by decide +kernel
theorem dX3_isAhead_61 : decode cX3_isAhead 61 = .ok (.iload 8, 2) := by decide +kernel
theorem dX3_isAhead_63 : decode cX3_isAhead 63 = .ok (.if_icmp .ne 14, 3) := by decide +kernel
theorem dX3_isAhead_66 : decode cX3_isAhead 66 = .ok (.iload 5, 2) := by decide +kernel
theorem dX3_isAhead_68 : decode cX3_isAhead 68 = .ok (.iload 6, 2) := by decide +kernel
theorem dX3_isAhead_70 : decode cX3_isAhead 70 = .ok (.if_icmp .le 7, 3) := by decide +kernel
theorem dX3_isAhead_73 : decode cX3_isAhead 73 = .ok (.iconst 1, 1) := by decide +kernel
theorem dX3_isAhead_74 : decode cX3_isAhead 74 = .ok (.goto 4, 3) := by decide +kernel
theorem dX3_isAhead_77 : decode cX3_isAhead 77 = .ok (.iconst 0, 1) := by decide +kernel
theorem dX3_isAhead_78 : decode cX3_isAhead 78 = .ok (.ireturn, 1) := by decide +kernel
set_option maxRecDepth 20000 in
theorem ggX4_init_X2_init : GoodIn wsX4_init wsX2_init := goodIn_r _ [21, 22, 2, 3, 23, 24, 25, 26, 27, 28, 56, 57, 58, 59] (by decide +kernel) (by decide +kernel)
set_option maxRecDepth 20000 in
theorem gX4_init_X2_init_n9 : GoodIn wsX4_init (wsX2_init) := ggX4_init_X2_init
set_option maxRecDepth 20000 in
theorem ggX4_init_X3_init : GoodIn wsX4_init wsX3_init := goodIn_r _ [30, 31, 2, 3, 32, 33, 27, 34, 25, 35, 36, 64, 65, 66, 67, 68] (by decide +kernel) (by decide +kernel)
set_option maxRecDepth 20000 in
theorem gX4_init_X3_init_n18 : GoodIn wsX4_init (wsX3_init) := ggX4_init_X3_init
set_option maxRecDepth 20000 in
theorem ggX4_init_X1_init : GoodIn wsX4_init wsX1_init := goodIn_r _ [38, 39, 2, 3, 40, 41, 25, 42, 43, 44, 69, 70, 71, 72, 73] (by decide +kernel) (by decide +kernel)
set_option maxRecDepth 20000 in
theorem gX4_init_X1_init_n25 : GoodIn wsX4_init (wsX1_init) := ggX4_init_X1_init
set_option maxRecDepth 20000 in
theorem ggX4_init_X0_init : GoodIn wsX4_init wsX0_init := goodIn_r _ [46, 47, 2, 3, 48, 49, 50, 51, 25, 52, 53, 54, 55, 74, 75, 76, 77, 78, 79, 80] (by decide +kernel) (by decide +kernel)
set_option maxRecDepth 20000 in
theorem gX4_init_X0_init_n32 : GoodIn wsX4_init (wsX0_init) := ggX4_init_X0_init
theorem dX4_init_0 : decode cX4_init 0 = .ok (.aload_n 0, 1) := by decide +kernel
theorem dX4_init_1 : decode cX4_init 1 = .ok (.invokespecial 1, 3) := by decide +kernel
theorem dX4_init_4 : decode cX4_init 4 = .ok (.aload_n 0, 1) := by decide +kernel
theorem dX4_init_5 : decode cX4_init 5 = .ok (.new 7, 3) := by decide +kernel
theorem dX4_init_8 : decode cX4_init 8 = .ok (.dup, 1) := by decide +kernel
theorem dX4_init_9 : decode cX4_init 9 = .ok (.invokespecial 9, 3) := by decide +kernel
theorem dX4_init_12 : decode cX4_init 12 = .ok (.putfield 10, 3) := by decide +kernel
theorem dX4_init_15 : decode cX4_init 15 = .ok (.aload_n 0, 1) := by decide +kernel
theorem dX4_init_16 : decode cX4_init 16 = .ok (.new 16, 3) := by decide +kernel
theorem dX4_init_19 : decode cX4_init 19 = .ok (.dup, 1) := by decide +kernel
theorem dX4_init_20 : decode cX4_init 20 = .ok (.invokespecial 18, 3) := by decide +kernel
theorem dX4_init_23 : decode cX4_init 23 = .ok (.putfield 19, 3) := by decide +kernel
theorem dX4_init_26 : decode cX4_init 26 = .ok (.aload_n 0, 1) := by decide +kernel
theorem dX4_init_27 : decode cX4_init 27 = .ok (.new 23, 3) := by decide +kernel
theorem dX4_init_30 : decode cX4_init 30 = .ok (.dup, 1) := by decide +kernel
theorem dX4_init_31 : decode cX4_init 31 = .ok (.invokespecial 25, 3) := by decide +kernel
theorem dX4_init_34 : decode cX4_init 34 = .ok (.putfield 26, 3) := by decide +kernel
theorem dX4_init_37 : decode cX4_init 37 = .ok (.aload_n 0, 1) := by decide +kernel
theorem dX4_init_38 : decode cX4_init 38 = .ok (.new 30, 3) := by decide +kernel
theorem dX4_init_41 : decode cX4_init 41 = .ok (.dup, 1) := by decide +kernel
theorem dX4_init_42 : decode cX4_init 42 = .ok (.invokespecial 32, 3) := by decide +kernel
theorem dX4_init_45 : decode cX4_init 45 = .ok (.putfield 33, 3) := by decide +kernel
theorem dX4_init_48 : decode cX4_init 48 = .ok (.return_, 1) := by decide +kernel
set_option maxRecDepth 20000 in
theorem ggX4_row_X4_isWithin : GoodIn wsX4_row wsX4_isWithin := goodIn_r _ [7] (by decide +kernel) (by decide +kernel)
set_option maxRecDepth 20000 in
theorem gX4_row_X4_isWithin : GoodIn wsX4_row (va_wsS RX4 37 yX4_isWithin wsX4_isWithin) := goodIn_app (goodIn_of _ (by decide +kernel)) ggX4_row_X4_isWithin
set_option maxRecDepth 20000 in
theorem ggX4_row_X2_add : GoodIn wsX4_row wsX2_add := goodIn_r _ [12, 13, 14, 15, 16, 17, 6, 18, 23, 24, 25, 26] (by decide +kernel) (by decide +kernel)
set_option maxRecDepth 20000 in
theorem gX4_row_X2_add : GoodIn wsX4_row (wsV RX4 47 RX2 yX2_add wsX2_add) := goodIn_app (goodIn_of _ (by decide +kernel)) ggX4_row_X2_add
theorem dX4_row_0 : decode cX4_row 0 = .ok (.iload_n 1, 1) := by decide +kernel
theorem dX4_row_1 : decode cX4_row 1 = .ok (.iconst 0, 1) := by decide +kernel
theorem dX4_row_2 : decode cX4_row 2 = .ok (.sipush 999, 3) := by decide +kernel
theorem dX4_row_5 : decode cX4_row 5 = .ok (.invokestatic 37, 3) := by decide +kernel
theorem dX4_row_8 : decode cX4_row 8 = .ok (.ifCond .ne 6, 3) := by decide +kernel
theorem dX4_row_11 : decode cX4_row 11 = .ok (.ldc 41, 2) := by decide +kernel
theorem dX4_row_13 : decode cX4_row 13 = .ok (.ireturn, 1) := by decide +kernel
theorem dX4_row_14 : decode cX4_row 14 = .ok (.aload_n 0, 1) := by decide +kernel
theorem dX4_row_15 : decode cX4_row 15 = .ok (.getfield 10, 3) := by decide +kernel
theorem dX4_row_18 : decode cX4_row 18 = .ok (.getfield 42, 3) := by decide +kernel
theorem dX4_row_21 : decode cX4_row 21 = .ok (.bipush 48, 2) := by decide +kernel
theorem dX4_row_23 : decode cX4_row 23 = .ok (.if_icmp .lt 6, 3) := by decide +kernel
theorem dX4_row_26 : decode cX4_row 26 = .ok (.ldc 46, 2) := by decide +kernel
theorem dX4_row_28 : decode cX4_row 28 = .ok (.ireturn, 1) := by decide +kernel
theorem dX4_row_29 : decode cX4_row 29 = .ok (.aload_n 0, 1) := by decide +kernel
theorem dX4_row_30 : decode cX4_row 30 = .ok (.getfield 10, 3) := by decide +kernel
theorem dX4_row_33 : decode cX4_row 33 = .ok (.iload_n 1, 1) := by decide +kernel
theorem dX4_row_34 : decode cX4_row 34 = .ok (.iload_n 2, 1) := by decide +kernel
theorem dX4_row_35 : decode cX4_row 35 = .ok (.invokevirtual 47, 3) := by decide +kernel
theorem dX4_row_38 : decode cX4_row 38 = .ok (.ireturn, 1) := by decide +kernel
set_option maxRecDepth 20000 in
theorem ggX4_put_X2_has : GoodIn wsX4_put wsX2_has := goodIn_r _ [8, 9, 10, 11, 12, 37, 38, 39, 40] (by decide +kernel) (by decide +kernel)
set_option maxRecDepth 20000 in
theorem gX4_put_X2_has : GoodIn wsX4_put (wsV RX4 51 RX2 yX2_has wsX2_has) := goodIn_app (goodIn_of _ (by decide +kernel)) ggX4_put_X2_has
set_option maxRecDepth 20000 in
theorem ggX4_put_X4_isColumn : GoodIn wsX4_put wsX4_isColumn := goodIn_r _ [15, 16, 10, 11, 12] (by decide +kernel) (by decide +kernel)
set_option maxRecDepth 20000 in
theorem gX4_put_X4_isColumn : GoodIn wsX4_put (va_wsS RX4 55 yX4_isColumn wsX4_isColumn) := goodIn_app (goodIn_of _ (by decide +kernel)) ggX4_put_X4_isColumn
set_option maxRecDepth 20000 in
theorem ggX4_put_X4_isWithin : GoodIn wsX4_put wsX4_isWithin := goodIn_r _ [12] (by decide +kernel) (by decide +kernel)
set_option maxRecDepth 20000 in
theorem gX4_put_X4_isWithin : GoodIn wsX4_put (va_wsS RX4 37 yX4_isWithin wsX4_isWithin) := goodIn_app (goodIn_of _ (by decide +kernel)) ggX4_put_X4_isWithin
set_option maxRecDepth 20000 in
theorem ggX4_put_X2_change : GoodIn wsX4_put wsX2_change := goodIn_r _ [20, 21, 22, 23, 24, 25, 7, 26, 27, 28, 29, 30, 31, 11, 32, 37, 38, 39, 40] (by decide +kernel) (by decide +kernel)
set_option maxRecDepth 20000 in
theorem gX4_put_X2_change : GoodIn wsX4_put (wsV RX4 59 RX2 yX2_change wsX2_change) := goodIn_app (goodIn_of _ (by decide +kernel)) ggX4_put_X2_change
theorem dX4_put_0 : decode cX4_put 0 = .ok (.aload_n 0, 1) := by decide +kernel
theorem dX4_put_1 : decode cX4_put 1 = .ok (.getfield 10, 3) := by decide +kernel
theorem dX4_put_4 : decode cX4_put 4 = .ok (.iload_n 1, 1) := by decide +kernel
theorem dX4_put_5 : decode cX4_put 5 = .ok (.invokevirtual 51, 3) := by decide +kernel
theorem dX4_put_8 : decode cX4_put 8 = .ok (.ifCond .eq 10, 3) := by decide +kernel
theorem dX4_put_11 : decode cX4_put 11 = .ok (.iload_n 2, 1) := by decide +kernel
theorem dX4_put_12 : decode cX4_put 12 = .ok (.invokestatic 55, 3) := by decide +kernel
theorem dX4_put_15 : decode cX4_put 15 = .ok (.ifCond .ne 6, 3) := by decide +kernel
theorem dX4_put_18 : decode cX4_put 18 = .ok (.ldc 58, 2) := by decide +kernel
theorem dX4_put_20 : decode cX4_put 20 = .ok (.ireturn, 1) := by decide +kernel
theorem dX4_put_21 : decode cX4_put 21 = .ok (.iload_n 3, 1) := by decide +kernel
theorem dX4_put_22 : decode cX4_put 22 = .ok (.iconst (-1), 1) := by decide +kernel
theorem dX4_put_23 : decode cX4_put 23 = .ok (.bipush 9, 2) := by decide +kernel
theorem dX4_put_25 : decode cX4_put 25 = .ok (.invokestatic 37, 3) := by decide +kernel
theorem dX4_put_28 : decode cX4_put 28 = .ok (.ifCond .ne 6, 3) := by decide +kernel
theorem dX4_put_31 : decode cX4_put 31 = .ok (.ldc 41, 2) := by decide +kernel
theorem dX4_put_33 : decode cX4_put 33 = .ok (.ireturn, 1) := by decide +kernel
theorem dX4_put_34 : decode cX4_put 34 = .ok (.aload_n 0, 1) := by decide +kernel
theorem dX4_put_35 : decode cX4_put 35 = .ok (.getfield 10, 3) := by decide +kernel
theorem dX4_put_38 : decode cX4_put 38 = .ok (.iload_n 1, 1) := by decide +kernel
theorem dX4_put_39 : decode cX4_put 39 = .ok (.iload_n 2, 1) := by decide +kernel
theorem dX4_put_40 : decode cX4_put 40 = .ok (.iload_n 3, 1) := by decide +kernel
theorem dX4_put_41 : decode cX4_put 41 = .ok (.iconst (-1), 1) := by decide +kernel
theorem dX4_put_42 : decode cX4_put 42 = .ok (.if_icmp .ne 8, 3) := by decide +kernel
theorem dX4_put_45 : decode cX4_put 45 = .ok (.bipush 10, 2) := by decide +kernel
theorem dX4_put_47 : decode cX4_put 47 = .ok (.goto 4, 3) := by decide +kernel
theorem dX4_put_50 : decode cX4_put 50 = .ok (.iload_n 3, 1) := by decide +kernel
theorem dX4_put_51 : decode cX4_put 51 = .ok (.invokevirtual 59, 3) := by decide +kernel
theorem dX4_put_54 : decode cX4_put 54 = .ok (.ireturn, 1) := by decide +kernel
set_option maxRecDepth 20000 in
theorem ggX4_of_X2_has : GoodIn wsX4_of wsX2_has := goodIn_r _ [7, 8, 9, 10, 11, 31, 32, 33, 34] (by decide +kernel) (by decide +kernel)
set_option maxRecDepth 20000 in
theorem gX4_of_X2_has : GoodIn wsX4_of (wsV RX4 51 RX2 yX2_has wsX2_has) := goodIn_app (goodIn_of _ (by decide +kernel)) ggX4_of_X2_has
set_option maxRecDepth 20000 in
theorem ggX4_of_X4_isWithin : GoodIn wsX4_of wsX4_isWithin := goodIn_r _ [11] (by decide +kernel) (by decide +kernel)
set_option maxRecDepth 20000 in
theorem gX4_of_X4_isWithin : GoodIn wsX4_of (va_wsS RX4 37 yX4_isWithin wsX4_isWithin) := goodIn_app (goodIn_of _ (by decide +kernel)) ggX4_of_X4_isWithin
set_option maxRecDepth 20000 in
theorem ggX4_of_X4_asNumber : GoodIn wsX4_of wsX4_asNumber := goodIn_r _ [15] (by decide +kernel) (by decide +kernel)
set_option maxRecDepth 20000 in
theorem gX4_of_X4_asNumber : GoodIn wsX4_of (va_wsS RX4 71 yX4_asNumber wsX4_asNumber) := goodIn_app (goodIn_of _ (by decide +kernel)) ggX4_of_X4_asNumber
set_option maxRecDepth 20000 in
theorem ggX4_of_X2_sortAt : GoodIn wsX4_of wsX2_sortAt := goodIn_r _ [19, 20, 21, 22, 6, 23, 24, 25, 10, 26, 31, 32, 33, 34] (by decide +kernel) (by decide +kernel)
set_option maxRecDepth 20000 in
theorem gX4_of_X2_sortAt : GoodIn wsX4_of (wsV RX4 75 RX2 yX2_sortAt wsX2_sortAt) := goodIn_app (goodIn_of _ (by decide +kernel)) ggX4_of_X2_sortAt
theorem dX4_of_0 : decode cX4_of 0 = .ok (.aload_n 0, 1) := by decide +kernel
theorem dX4_of_1 : decode cX4_of 1 = .ok (.getfield 10, 3) := by decide +kernel
theorem dX4_of_4 : decode cX4_of 4 = .ok (.iload_n 1, 1) := by decide +kernel
theorem dX4_of_5 : decode cX4_of 5 = .ok (.invokevirtual 51, 3) := by decide +kernel
theorem dX4_of_8 : decode cX4_of 8 = .ok (.ifCond .eq 13, 3) := by decide +kernel
theorem dX4_of_11 : decode cX4_of 11 = .ok (.iload_n 2, 1) := by decide +kernel
theorem dX4_of_12 : decode cX4_of 12 = .ok (.iconst 0, 1) := by decide +kernel
theorem dX4_of_13 : decode cX4_of 13 = .ok (.bipush 6, 2) := by decide +kernel
theorem dX4_of_15 : decode cX4_of 15 = .ok (.invokestatic 37, 3) := by decide +kernel
theorem dX4_of_18 : decode cX4_of 18 = .ok (.ifCond .ne 6, 3) := by decide +kernel
theorem dX4_of_21 : decode cX4_of 21 = .ok (.ldc 58, 2) := by decide +kernel
theorem dX4_of_23 : decode cX4_of 23 = .ok (.ireturn, 1) := by decide +kernel
theorem dX4_of_24 : decode cX4_of 24 = .ok (.iload_n 2, 1) := by decide +kernel
theorem dX4_of_25 : decode cX4_of 25 = .ok (.iconst 5, 1) := by decide +kernel
theorem dX4_of_26 : decode cX4_of 26 = .ok (.if_icmp .ne 13, 3) := by decide +kernel
theorem dX4_of_29 : decode cX4_of 29 = .ok (.aload_n 0, 1) := by decide +kernel
theorem dX4_of_30 : decode cX4_of 30 = .ok (.getfield 10, 3) := by decide +kernel
theorem dX4_of_33 : decode cX4_of 33 = .ok (.getfield 63, 3) := by decide +kernel
theorem dX4_of_36 : decode cX4_of 36 = .ok (.iload_n 1, 1) := by decide +kernel
theorem dX4_of_37 : decode cX4_of 37 = .ok (.iaload, 1) := by decide +kernel
theorem dX4_of_38 : decode cX4_of 38 = .ok (.ireturn, 1) := by decide +kernel
theorem dX4_of_39 : decode cX4_of 39 = .ok (.iload_n 2, 1) := by decide +kernel
theorem dX4_of_40 : decode cX4_of 40 = .ok (.bipush 6, 2) := by decide +kernel
theorem dX4_of_42 : decode cX4_of 42 = .ok (.if_icmp .ne 28, 3) := by decide +kernel
theorem dX4_of_45 : decode cX4_of 45 = .ok (.aload_n 0, 1) := by decide +kernel
theorem dX4_of_46 : decode cX4_of 46 = .ok (.getfield 10, 3) := by decide +kernel
theorem dX4_of_49 : decode cX4_of 49 = .ok (.getfield 67, 3) := by decide +kernel
theorem dX4_of_52 : decode cX4_of 52 = .ok (.lconst 1, 1) := by decide +kernel
theorem dX4_of_53 : decode cX4_of 53 = .ok (.iload_n 1, 1) := by decide +kernel
theorem dX4_of_54 : decode cX4_of 54 = .ok (.lshl, 1) := by decide +kernel
theorem dX4_of_55 : decode cX4_of 55 = .ok (.land, 1) := by decide +kernel
theorem dX4_of_56 : decode cX4_of 56 = .ok (.lconst 0, 1) := by decide +kernel
theorem dX4_of_57 : decode cX4_of 57 = .ok (.lcmp, 1) := by decide +kernel
theorem dX4_of_58 : decode cX4_of 58 = .ok (.ifCond .eq 7, 3) := by decide +kernel
theorem dX4_of_61 : decode cX4_of 61 = .ok (.iconst 1, 1) := by decide +kernel
theorem dX4_of_62 : decode cX4_of 62 = .ok (.goto 4, 3) := by decide +kernel
theorem dX4_of_65 : decode cX4_of 65 = .ok (.iconst 0, 1) := by decide +kernel
theorem dX4_of_66 : decode cX4_of 66 = .ok (.invokestatic 71, 3) := by decide +kernel
theorem dX4_of_69 : decode cX4_of 69 = .ok (.ireturn, 1) := by decide +kernel
theorem dX4_of_70 : decode cX4_of 70 = .ok (.aload_n 0, 1) := by decide +kernel
theorem dX4_of_71 : decode cX4_of 71 = .ok (.getfield 10, 3) := by decide +kernel
theorem dX4_of_74 : decode cX4_of 74 = .ok (.iload_n 1, 1) := by decide +kernel
theorem dX4_of_75 : decode cX4_of 75 = .ok (.iload_n 2, 1) := by decide +kernel
theorem dX4_of_76 : decode cX4_of 76 = .ok (.invokevirtual 75, 3) := by decide +kernel
theorem dX4_of_79 : decode cX4_of 79 = .ok (.ireturn, 1) := by decide +kernel
set_option maxRecDepth 20000 in
theorem ggX4_slices_X4_isWithin : GoodIn wsX4_slices wsX4_isWithin := goodIn_r _ [7] (by decide +kernel) (by decide +kernel)
set_option maxRecDepth 20000 in
theorem gX4_slices_X4_isWithin : GoodIn wsX4_slices (va_wsS RX4 37 yX4_isWithin wsX4_isWithin) := goodIn_app (goodIn_of _ (by decide +kernel)) ggX4_slices_X4_isWithin
set_option maxRecDepth 20000 in
theorem ggX4_slices_X3_make : GoodIn wsX4_slices wsX3_make := goodIn_r _ [12, 13, 14, 15, 16, 17, 18, 19, 20, 21, 22, 23, 24, 11, 25, 26, 27, 28, 29, 30, 31, 32, 33, 34, 35, 36, 37, 38, 39, 40, 41, 6, 42, 43, 44, 45, 46, 47, 48, 49, 50, 51, 52, 57, 58, 59, 60, 61, 62, 63, 64, 65] (by decide +kernel) (by decide +kernel)
set_option maxRecDepth 20000 in
theorem gX4_slices_X3_make : GoodIn wsX4_slices (wsV RX4 79 RX3 yX3_make wsX3_make) := goodIn_app (goodIn_of _ (by decide +kernel)) ggX4_slices_X3_make
theorem dX4_slices_0 : decode cX4_slices 0 = .ok (.iload_n 1, 1) := by decide +kernel
theorem dX4_slices_1 : decode cX4_slices 1 = .ok (.iconst 1, 1) := by decide +kernel
theorem dX4_slices_2 : decode cX4_slices 2 = .ok (.bipush 48, 2) := by decide +kernel
theorem dX4_slices_4 : decode cX4_slices 4 = .ok (.invokestatic 37, 3) := by decide +kernel
theorem dX4_slices_7 : decode cX4_slices 7 = .ok (.ifCond .eq 12, 3) := by decide +kernel
theorem dX4_slices_10 : decode cX4_slices 10 = .ok (.iload_n 2, 1) := by decide +kernel
theorem dX4_slices_11 : decode cX4_slices 11 = .ok (.iconst 1, 1) := by decide +kernel
theorem dX4_slices_12 : decode cX4_slices 12 = .ok (.iconst 2, 1) := by decide +kernel
theorem dX4_slices_13 : decode cX4_slices 13 = .ok (.invokestatic 37, 3) := by decide +kernel
theorem dX4_slices_16 : decode cX4_slices 16 = .ok (.ifCond .ne 6, 3) := by decide +kernel
theorem dX4_slices_19 : decode cX4_slices 19 = .ok (.ldc 41, 2) := by decide +kernel
theorem dX4_slices_21 : decode cX4_slices 21 = .ok (.ireturn, 1) := by decide +kernel
theorem dX4_slices_22 : decode cX4_slices 22 = .ok (.aload_n 0, 1) := by decide +kernel
theorem dX4_slices_23 : decode cX4_slices 23 = .ok (.getfield 19, 3) := by decide +kernel
theorem dX4_slices_26 : decode cX4_slices 26 = .ok (.aload_n 0, 1) := by decide +kernel
theorem dX4_slices_27 : decode cX4_slices 27 = .ok (.getfield 10, 3) := by decide +kernel
theorem dX4_slices_30 : decode cX4_slices 30 = .ok (.iload_n 1, 1) := by decide +kernel
theorem dX4_slices_31 : decode cX4_slices 31 = .ok (.iload_n 2, 1) := by decide +kernel
theorem dX4_slices_32 : decode cX4_slices 32 = .ok (.iconst 2, 1) := by decide +kernel
theorem dX4_slices_33 : decode cX4_slices 33 = .ok (.if_icmp .ne 7, 3) := by decide +kernel
theorem dX4_slices_36 : decode cX4_slices 36 = .ok (.iconst 1, 1) := by decide +kernel
theorem dX4_slices_37 : decode cX4_slices 37 = .ok (.goto 4, 3) := by decide +kernel
theorem dX4_slices_40 : decode cX4_slices 40 = .ok (.iconst 0, 1) := by decide +kernel
theorem dX4_slices_41 : decode cX4_slices 41 = .ok (.invokevirtual 79, 3) := by decide +kernel
theorem dX4_slices_44 : decode cX4_slices 44 = .ok (.aload_n 0, 1) := by decide +kernel
theorem dX4_slices_45 : decode cX4_slices 45 = .ok (.getfield 19, 3) := by decide +kernel
theorem dX4_slices_48 : decode cX4_slices 48 = .ok (.getfield 83, 3) := by decide +kernel
theorem dX4_slices_51 : decode cX4_slices 51 = .ok (.ireturn, 1) := by decide +kernel
set_option maxRecDepth 20000 in
theorem ggX4_slice_X3_has : GoodIn wsX4_slice wsX3_has := goodIn_r _ [7, 8, 9, 10, 11, 29, 30, 31, 32, 33] (by decide +kernel) (by decide +kernel)
set_option maxRecDepth 20000 in
theorem gX4_slice_X3_has : GoodIn wsX4_slice (wsV RX4 84 RX3 yX3_has wsX3_has) := goodIn_app (goodIn_of _ (by decide +kernel)) ggX4_slice_X3_has
set_option maxRecDepth 20000 in
theorem ggX4_slice_X4_columnOf : GoodIn wsX4_slice wsX4_columnOf := goodIn_r _ [14] (by decide +kernel) (by decide +kernel)
set_option maxRecDepth 20000 in
theorem gX4_slice_X4_columnOf : GoodIn wsX4_slice (va_wsS RX4 88 yX4_columnOf wsX4_columnOf) := goodIn_app (goodIn_of _ (by decide +kernel)) ggX4_slice_X4_columnOf
set_option maxRecDepth 20000 in
theorem ggX4_slice_X4_sortOf : GoodIn wsX4_slice wsX4_sortOf := goodIn_r _ [17] (by decide +kernel) (by decide +kernel)
set_option maxRecDepth 20000 in
theorem gX4_slice_X4_sortOf : GoodIn wsX4_slice (va_wsS RX4 92 yX4_sortOf wsX4_sortOf) := goodIn_app (goodIn_of _ (by decide +kernel)) ggX4_slice_X4_sortOf
set_option maxRecDepth 20000 in
theorem ggX4_slice_J13_bitCount_95d88 : GoodIn wsX4_slice wsJ13_bitCount_95d88 := goodIn_r _ [21, 22, 23, 24] (by decide +kernel) (by decide +kernel)
set_option maxRecDepth 20000 in
theorem gX4_slice_J13_bitCount_95d88 : GoodIn wsX4_slice (va_wsS RX4 102 yJ13_bitCount_95d88 wsJ13_bitCount_95d88) := goodIn_app (goodIn_of _ (by decide +kernel)) ggX4_slice_J13_bitCount_95d88
theorem dX4_slice_0 : decode cX4_slice 0 = .ok (.aload_n 0, 1) := by decide +kernel
theorem dX4_slice_1 : decode cX4_slice 1 = .ok (.getfield 19, 3) := by decide +kernel
theorem dX4_slice_4 : decode cX4_slice 4 = .ok (.iload_n 1, 1) := by decide +kernel
theorem dX4_slice_5 : decode cX4_slice 5 = .ok (.invokevirtual 84, 3) := by decide +kernel
theorem dX4_slice_8 : decode cX4_slice 8 = .ok (.ifCond .ne 6, 3) := by decide +kernel
theorem dX4_slice_11 : decode cX4_slice 11 = .ok (.ldc 58, 2) := by decide +kernel
theorem dX4_slice_13 : decode cX4_slice 13 = .ok (.ireturn, 1) := by decide +kernel
theorem dX4_slice_14 : decode cX4_slice 14 = .ok (.iload_n 2, 1) := by decide +kernel
theorem dX4_slice_15 : decode cX4_slice 15 = .ok (.tableswitch 123 0 5 #[37, 50, 63, 76, 89, 102], 37) := by decide +kernel
theorem dX4_slice_52 : decode cX4_slice 52 = .ok (.aload_n 0, 1) := by decide +kernel
theorem dX4_slice_53 : decode cX4_slice 53 = .ok (.getfield 19, 3) := by decide +kernel
theorem dX4_slice_56 : decode cX4_slice 56 = .ok (.getfield 85, 3) := by decide +kernel
theorem dX4_slice_59 : decode cX4_slice 59 = .ok (.iload_n 1, 1) := by decide +kernel
theorem dX4_slice_60 : decode cX4_slice 60 = .ok (.iaload, 1) := by decide +kernel
theorem dX4_slice_61 : decode cX4_slice 61 = .ok (.invokestatic 88, 3) := by decide +kernel
theorem dX4_slice_64 : decode cX4_slice 64 = .ok (.ireturn, 1) := by decide +kernel
theorem dX4_slice_65 : decode cX4_slice 65 = .ok (.aload_n 0, 1) := by decide +kernel
theorem dX4_slice_66 : decode cX4_slice 66 = .ok (.getfield 19, 3) := by decide +kernel
theorem dX4_slice_69 : decode cX4_slice 69 = .ok (.getfield 85, 3) := by decide +kernel
theorem dX4_slice_72 : decode cX4_slice 72 = .ok (.iload_n 1, 1) := by decide +kernel
theorem dX4_slice_73 : decode cX4_slice 73 = .ok (.iaload, 1) := by decide +kernel
theorem dX4_slice_74 : decode cX4_slice 74 = .ok (.invokestatic 92, 3) := by decide +kernel
theorem dX4_slice_77 : decode cX4_slice 77 = .ok (.ireturn, 1) := by decide +kernel
theorem dX4_slice_78 : decode cX4_slice 78 = .ok (.aload_n 0, 1) := by decide +kernel
theorem dX4_slice_79 : decode cX4_slice 79 = .ok (.getfield 19, 3) := by decide +kernel
theorem dX4_slice_82 : decode cX4_slice 82 = .ok (.getfield 95, 3) := by decide +kernel
theorem dX4_slice_85 : decode cX4_slice 85 = .ok (.iload_n 1, 1) := by decide +kernel
theorem dX4_slice_86 : decode cX4_slice 86 = .ok (.iaload, 1) := by decide +kernel
theorem dX4_slice_87 : decode cX4_slice 87 = .ok (.invokestatic 88, 3) := by decide +kernel
theorem dX4_slice_90 : decode cX4_slice 90 = .ok (.ireturn, 1) := by decide +kernel
theorem dX4_slice_91 : decode cX4_slice 91 = .ok (.aload_n 0, 1) := by decide +kernel
theorem dX4_slice_92 : decode cX4_slice 92 = .ok (.getfield 19, 3) := by decide +kernel
theorem dX4_slice_95 : decode cX4_slice 95 = .ok (.getfield 95, 3) := by decide +kernel
theorem dX4_slice_98 : decode cX4_slice 98 = .ok (.iload_n 1, 1) := by decide +kernel
theorem dX4_slice_99 : decode cX4_slice 99 = .ok (.iaload, 1) := by decide +kernel
theorem dX4_slice_100 : decode cX4_slice 100 = .ok (.invokestatic 92, 3) := by decide +kernel
theorem dX4_slice_103 : decode cX4_slice 103 = .ok (.ireturn, 1) := by decide +kernel
theorem dX4_slice_104 : decode cX4_slice 104 = .ok (.aload_n 0, 1) := by decide +kernel
theorem dX4_slice_105 : decode cX4_slice 105 = .ok (.getfield 19, 3) := by decide +kernel
theorem dX4_slice_108 : decode cX4_slice 108 = .ok (.getfield 98, 3) := by decide +kernel
theorem dX4_slice_111 : decode cX4_slice 111 = .ok (.iload_n 1, 1) := by decide +kernel
theorem dX4_slice_112 : decode cX4_slice 112 = .ok (.laload, 1) := by decide +kernel
theorem dX4_slice_113 : decode cX4_slice 113 = .ok (.invokestatic 102, 3) := by decide +kernel
theorem dX4_slice_116 : decode cX4_slice 116 = .ok (.ireturn, 1) := by decide +kernel
theorem dX4_slice_117 : decode cX4_slice 117 = .ok (.aload_n 0, 1) := by decide +kernel
theorem dX4_slice_118 : decode cX4_slice 118 = .ok (.getfield 19, 3) := by decide +kernel
theorem dX4_slice_121 : decode cX4_slice 121 = .ok (.getfield 98, 3) := by decide +kernel
theorem dX4_slice_124 : decode cX4_slice 124 = .ok (.iload_n 1, 1) := by decide +kernel
theorem dX4_slice_125 : decode cX4_slice 125 = .ok (.laload, 1) := by decide +kernel
theorem dX4_slice_126 : decode cX4_slice 126 = .ok (.aload_n 0, 1) := by decide +kernel
theorem dX4_slice_127 : decode cX4_slice 127 = .ok (.getfield 19, 3) := by decide +kernel
theorem dX4_slice_130 : decode cX4_slice 130 = .ok (.getfield 108, 3) := by decide +kernel
theorem dX4_slice_133 : decode cX4_slice 133 = .ok (.land, 1) := by decide +kernel
theorem dX4_slice_134 : decode cX4_slice 134 = .ok (.invokestatic 102, 3) := by decide +kernel
theorem dX4_slice_137 : decode cX4_slice 137 = .ok (.ireturn, 1) := by decide +kernel
theorem dX4_slice_138 : decode cX4_slice 138 = .ok (.ldc 58, 2) := by decide +kernel
theorem dX4_slice_140 : decode cX4_slice 140 = .ok (.ireturn, 1) := by decide +kernel
set_option maxRecDepth 20000 in
theorem ggX4_member_X3_has : GoodIn wsX4_member wsX3_has := goodIn_r _ [8, 9, 10, 11, 12, 17, 18, 19, 20, 21] (by decide +kernel) (by decide +kernel)
set_option maxRecDepth 20000 in
theorem gX4_member_X3_has : GoodIn wsX4_member (wsV RX4 84 RX3 yX3_has wsX3_has) := goodIn_app (goodIn_of _ (by decide +kernel)) ggX4_member_X3_has
theorem dX4_member_0 : decode cX4_member 0 = .ok (.aload_n 0, 1) := by decide +kernel
theorem dX4_member_1 : decode cX4_member 1 = .ok (.getfield 19, 3) := by decide +kernel
theorem dX4_member_4 : decode cX4_member 4 = .ok (.iload_n 1, 1) := by decide +kernel
theorem dX4_member_5 : decode cX4_member 5 = .ok (.invokevirtual 84, 3) := by decide +kernel
theorem dX4_member_8 : decode cX4_member 8 = .ok (.ifCond .ne 6, 3) := by decide +kernel
theorem dX4_member_11 : decode cX4_member 11 = .ok (.ldc 58, 2) := by decide +kernel
theorem dX4_member_13 : decode cX4_member 13 = .ok (.ireturn, 1) := by decide +kernel
theorem dX4_member_14 : decode cX4_member 14 = .ok (.iload_n 2, 1) := by decide +kernel
theorem dX4_member_15 : decode cX4_member 15 = .ok (.ifCond .ge 6, 3) := by decide +kernel
theorem dX4_member_18 : decode cX4_member 18 = .ok (.ldc 41, 2) := by decide +kernel
theorem dX4_member_20 : decode cX4_member 20 = .ok (.ireturn, 1) := by decide +kernel
theorem dX4_member_21 : decode cX4_member 21 = .ok (.iload_n 2, 1) := by decide +kernel
theorem dX4_member_22 : decode cX4_member 22 = .ok (.istore_n 3, 1) := by decide +kernel
theorem dX4_member_23 : decode cX4_member 23 = .ok (.iconst 0, 1) := by decide +kernel
theorem dX4_member_24 : decode cX4_member 24 = .ok (.istore 4, 2) := by decide +kernel
theorem dX4_member_26 : decode cX4_member 26 = .ok (.iload 4, 2) := by decide +kernel
theorem dX4_member_28 : decode cX4_member 28 = .ok (.bipush 48, 2) := by decide +kernel
theorem dX4_member_30 : decode cX4_member 30 = .ok (.if_icmp .ge 38, 3) := by decide +kernel
theorem dX4_member_33 : decode cX4_member 33 = .ok (.aload_n 0, 1) := by decide +kernel
theorem dX4_member_34 : decode cX4_member 34 = .ok (.getfield 19, 3) := by decide +kernel
theorem dX4_member_37 : decode cX4_member 37 = .ok (.getfield 98, 3) := by decide +kernel
theorem dX4_member_40 : decode cX4_member 40 = .ok (.iload_n 1, 1) := by decide +kernel
theorem dX4_member_41 : decode cX4_member 41 = .ok (.laload, 1) := by decide +kernel
theorem dX4_member_42 : decode cX4_member 42 = .ok (.lconst 1, 1) := by decide +kernel
theorem dX4_member_43 : decode cX4_member 43 = .ok (.iload 4, 2) := by decide +kernel
theorem dX4_member_45 : decode cX4_member 45 = .ok (.lshl, 1) := by decide +kernel
theorem dX4_member_46 : decode cX4_member 46 = .ok (.land, 1) := by decide +kernel
theorem dX4_member_47 : decode cX4_member 47 = .ok (.lconst 0, 1) := by decide +kernel
theorem dX4_member_48 : decode cX4_member 48 = .ok (.lcmp, 1) := by decide +kernel
theorem dX4_member_49 : decode cX4_member 49 = .ok (.ifCond .eq 13, 3) := by decide +kernel
theorem dX4_member_52 : decode cX4_member 52 = .ok (.iload_n 3, 1) := by decide +kernel
theorem dX4_member_53 : decode cX4_member 53 = .ok (.ifCond .ne 6, 3) := by decide +kernel
theorem dX4_member_56 : decode cX4_member 56 = .ok (.iload 4, 2) := by decide +kernel
theorem dX4_member_58 : decode cX4_member 58 = .ok (.ireturn, 1) := by decide +kernel
theorem dX4_member_59 : decode cX4_member 59 = .ok (.iinc 3 (-1), 3) := by decide +kernel
theorem dX4_member_62 : decode cX4_member 62 = .ok (.iinc 4 1, 3) := by decide +kernel
theorem dX4_member_65 : decode cX4_member 65 = .ok (.goto (-39), 3) := by decide +kernel
theorem dX4_member_68 : decode cX4_member 68 = .ok (.iconst (-1), 1) := by decide +kernel
theorem dX4_member_69 : decode cX4_member 69 = .ok (.ireturn, 1) := by decide +kernel
set_option maxRecDepth 20000 in
theorem ggX4_share_X3_has : GoodIn wsX4_share wsX3_has := goodIn_r _ [8, 9, 10, 11, 12, 47, 48, 49, 50, 51] (by decide +kernel) (by decide +kernel)
set_option maxRecDepth 20000 in
theorem gX4_share_X3_has : GoodIn wsX4_share (wsV RX4 84 RX3 yX3_has wsX3_has) := goodIn_app (goodIn_of _ (by decide +kernel)) ggX4_share_X3_has
set_option maxRecDepth 20000 in
theorem ggX4_share_X4_isWithin : GoodIn wsX4_share wsX4_isWithin := goodIn_r _ [12] (by decide +kernel) (by decide +kernel)
set_option maxRecDepth 20000 in
theorem gX4_share_X4_isWithin : GoodIn wsX4_share (va_wsS RX4 37 yX4_isWithin wsX4_isWithin) := goodIn_app (goodIn_of _ (by decide +kernel)) ggX4_share_X4_isWithin
set_option maxRecDepth 20000 in
theorem ggX4_share_X4_isPart : GoodIn wsX4_share wsX4_isPart := goodIn_r _ [16, 13, 10, 11, 12] (by decide +kernel) (by decide +kernel)
set_option maxRecDepth 20000 in
theorem gX4_share_X4_isPart : GoodIn wsX4_share (va_wsS RX4 111 yX4_isPart wsX4_isPart) := goodIn_app (goodIn_of _ (by decide +kernel)) ggX4_share_X4_isPart
set_option maxRecDepth 20000 in
theorem ggX4_share_J13_bitCount_95d88 : GoodIn wsX4_share wsJ13_bitCount_95d88 := goodIn_r _ [20, 21, 22, 23] (by decide +kernel) (by decide +kernel)
set_option maxRecDepth 20000 in
theorem gX4_share_J13_bitCount_95d88 : GoodIn wsX4_share (va_wsS RX4 102 yJ13_bitCount_95d88 wsJ13_bitCount_95d88) := goodIn_app (goodIn_of _ (by decide +kernel)) ggX4_share_J13_bitCount_95d88
set_option maxRecDepth 20000 in
theorem ggX4_share_X4_lowest : GoodIn wsX4_share wsX4_lowest := goodIn_r _ [26, 27, 28, 29, 30, 31, 32, 11, 33, 34, 35, 36] (by decide +kernel) (by decide +kernel)
set_option maxRecDepth 20000 in
theorem gX4_share_X4_lowest : GoodIn wsX4_share (va_wsS RX4 116 yX4_lowest wsX4_lowest) := goodIn_app (goodIn_of _ (by decide +kernel)) ggX4_share_X4_lowest
set_option maxRecDepth 20000 in
theorem ggX4_share_X4_boundAbove : GoodIn wsX4_share wsX4_boundAbove := goodIn_r _ [39] (by decide +kernel) (by decide +kernel)
set_option maxRecDepth 20000 in
theorem gX4_share_X4_boundAbove : GoodIn wsX4_share (va_wsS RX4 120 yX4_boundAbove wsX4_boundAbove) := goodIn_app (goodIn_of _ (by decide +kernel)) ggX4_share_X4_boundAbove
set_option maxRecDepth 20000 in
theorem ggX4_share_X4_boundBelow : GoodIn wsX4_share wsX4_boundBelow := goodIn_r _ [42] (by decide +kernel) (by decide +kernel)
set_option maxRecDepth 20000 in
theorem gX4_share_X4_boundBelow : GoodIn wsX4_share (va_wsS RX4 123 yX4_boundBelow wsX4_boundBelow) := goodIn_app (goodIn_of _ (by decide +kernel)) ggX4_share_X4_boundBelow
theorem dX4_share_0 : decode cX4_share 0 = .ok (.aload_n 0, 1) := by decide +kernel
theorem dX4_share_1 : decode cX4_share 1 = .ok (.getfield 19, 3) := by decide +kernel
theorem dX4_share_4 : decode cX4_share 4 = .ok (.iload_n 1, 1) := by decide +kernel
theorem dX4_share_5 : decode cX4_share 5 = .ok (.invokevirtual 84, 3) := by decide +kernel
theorem dX4_share_8 : decode cX4_share 8 = .ok (.ifCond .ne 7, 3) := by decide +kernel
theorem dX4_share_11 : decode cX4_share 11 = .ok (.ldc2_w 109, 3) := by decide +kernel
theorem dX4_share_14 : decode cX4_share 14 = .ok (.lreturn, 1) := by decide +kernel
theorem dX4_share_15 : decode cX4_share 15 = .ok (.iload_n 2, 1) := by decide +kernel
theorem dX4_share_16 : decode cX4_share 16 = .ok (.iconst 0, 1) := by decide +kernel
theorem dX4_share_17 : decode cX4_share 17 = .ok (.iconst 1, 1) := by decide +kernel
theorem dX4_share_18 : decode cX4_share 18 = .ok (.invokestatic 37, 3) := by decide +kernel
theorem dX4_share_21 : decode cX4_share 21 = .ok (.ifCond .eq 10, 3) := by decide +kernel
theorem dX4_share_24 : decode cX4_share 24 = .ok (.iload_n 3, 1) := by decide +kernel
theorem dX4_share_25 : decode cX4_share 25 = .ok (.invokestatic 111, 3) := by decide +kernel
theorem dX4_share_28 : decode cX4_share 28 = .ok (.ifCond .ne 7, 3) := by decide +kernel
theorem dX4_share_31 : decode cX4_share 31 = .ok (.ldc2_w 114, 3) := by decide +kernel
theorem dX4_share_34 : decode cX4_share 34 = .ok (.lreturn, 1) := by decide +kernel
theorem dX4_share_35 : decode cX4_share 35 = .ok (.aload_n 0, 1) := by decide +kernel
theorem dX4_share_36 : decode cX4_share 36 = .ok (.getfield 19, 3) := by decide +kernel
theorem dX4_share_39 : decode cX4_share 39 = .ok (.getfield 98, 3) := by decide +kernel
theorem dX4_share_42 : decode cX4_share 42 = .ok (.iload_n 1, 1) := by decide +kernel
theorem dX4_share_43 : decode cX4_share 43 = .ok (.laload, 1) := by decide +kernel
theorem dX4_share_44 : decode cX4_share 44 = .ok (.invokestatic 102, 3) := by decide +kernel
theorem dX4_share_47 : decode cX4_share 47 = .ok (.istore 4, 2) := by decide +kernel
theorem dX4_share_49 : decode cX4_share 49 = .ok (.aload_n 0, 1) := by decide +kernel
theorem dX4_share_50 : decode cX4_share 50 = .ok (.getfield 19, 3) := by decide +kernel
theorem dX4_share_53 : decode cX4_share 53 = .ok (.getfield 98, 3) := by decide +kernel
theorem dX4_share_56 : decode cX4_share 56 = .ok (.iload_n 1, 1) := by decide +kernel
theorem dX4_share_57 : decode cX4_share 57 = .ok (.laload, 1) := by decide +kernel
theorem dX4_share_58 : decode cX4_share 58 = .ok (.aload_n 0, 1) := by decide +kernel
theorem dX4_share_59 : decode cX4_share 59 = .ok (.getfield 19, 3) := by decide +kernel
theorem dX4_share_62 : decode cX4_share 62 = .ok (.getfield 108, 3) := by decide +kernel
theorem dX4_share_65 : decode cX4_share 65 = .ok (.land, 1) := by decide +kernel
theorem dX4_share_66 : decode cX4_share 66 = .ok (.invokestatic 102, 3) := by decide +kernel
theorem dX4_share_69 : decode cX4_share 69 = .ok (.istore 5, 2) := by decide +kernel
theorem dX4_share_71 : decode cX4_share 71 = .ok (.iload_n 2, 1) := by decide +kernel
theorem dX4_share_72 : decode cX4_share 72 = .ok (.ifCond .ne 16, 3) := by decide +kernel
theorem dX4_share_75 : decode cX4_share 75 = .ok (.iload 5, 2) := by decide +kernel
theorem dX4_share_77 : decode cX4_share 77 = .ok (.i2l, 1) := by decide +kernel
theorem dX4_share_78 : decode cX4_share 78 = .ok (.iload 4, 2) := by decide +kernel
theorem dX4_share_80 : decode cX4_share 80 = .ok (.i2l, 1) := by decide +kernel
theorem dX4_share_81 : decode cX4_share 81 = .ok (.iload_n 3, 1) := by decide +kernel
theorem dX4_share_82 : decode cX4_share 82 = .ok (.invokestatic 116, 3) := by decide +kernel
theorem dX4_share_85 : decode cX4_share 85 = .ok (.goto 19, 3) := by decide +kernel
theorem dX4_share_88 : decode cX4_share 88 = .ok (.iload 5, 2) := by decide +kernel
theorem dX4_share_90 : decode cX4_share 90 = .ok (.invokestatic 120, 3) := by decide +kernel
theorem dX4_share_93 : decode cX4_share 93 = .ok (.i2l, 1) := by decide +kernel
theorem dX4_share_94 : decode cX4_share 94 = .ok (.iload 4, 2) := by decide +kernel
theorem dX4_share_96 : decode cX4_share 96 = .ok (.invokestatic 123, 3) := by decide +kernel
theorem dX4_share_99 : decode cX4_share 99 = .ok (.i2l, 1) := by decide +kernel
theorem dX4_share_100 : decode cX4_share 100 = .ok (.iload_n 3, 1) := by decide +kernel
theorem dX4_share_101 : decode cX4_share 101 = .ok (.invokestatic 116, 3) := by decide +kernel
theorem dX4_share_104 : decode cX4_share 104 = .ok (.lreturn, 1) := by decide +kernel
set_option maxRecDepth 20000 in
theorem ggX4_gap_X4_isColumn : GoodIn wsX4_gap wsX4_isColumn := goodIn_r _ [9, 10, 11, 8, 12] (by decide +kernel) (by decide +kernel)
set_option maxRecDepth 20000 in
theorem gX4_gap_X4_isColumn : GoodIn wsX4_gap (va_wsS RX4 55 yX4_isColumn wsX4_isColumn) := goodIn_app (goodIn_of _ (by decide +kernel)) ggX4_gap_X4_isColumn
set_option maxRecDepth 20000 in
theorem ggX4_gap_X4_isSort : GoodIn wsX4_gap wsX4_isSort := goodIn_r _ [15, 10, 11, 8, 12] (by decide +kernel) (by decide +kernel)
set_option maxRecDepth 20000 in
theorem gX4_gap_X4_isSort : GoodIn wsX4_gap (va_wsS RX4 126 yX4_isSort wsX4_isSort) := goodIn_app (goodIn_of _ (by decide +kernel)) ggX4_gap_X4_isSort
set_option maxRecDepth 20000 in
theorem ggX4_gap_X4_isPart : GoodIn wsX4_gap wsX4_isPart := goodIn_r _ [18, 10, 11, 8, 12] (by decide +kernel) (by decide +kernel)
set_option maxRecDepth 20000 in
theorem gX4_gap_X4_isPart : GoodIn wsX4_gap (va_wsS RX4 111 yX4_isPart wsX4_isPart) := goodIn_app (goodIn_of _ (by decide +kernel)) ggX4_gap_X4_isPart
set_option maxRecDepth 20000 in
theorem ggX4_gap_X2_withSort : GoodIn wsX4_gap wsX2_withSort := goodIn_r _ [23, 24, 25, 8, 26, 51, 52, 53, 54] (by decide +kernel) (by decide +kernel)
set_option maxRecDepth 20000 in
theorem gX4_gap_X2_withSort : GoodIn wsX4_gap (wsV RX4 129 RX2 yX2_withSort wsX2_withSort) := goodIn_app (goodIn_of _ (by decide +kernel)) ggX4_gap_X2_withSort
set_option maxRecDepth 20000 in
theorem ggX4_gap_J13_bitCount_95d88 : GoodIn wsX4_gap wsJ13_bitCount_95d88 := goodIn_r _ [30, 31, 32, 33] (by decide +kernel) (by decide +kernel)
set_option maxRecDepth 20000 in
theorem gX4_gap_J13_bitCount_95d88 : GoodIn wsX4_gap (va_wsS RX4 102 yJ13_bitCount_95d88 wsJ13_bitCount_95d88) := goodIn_app (goodIn_of _ (by decide +kernel)) ggX4_gap_J13_bitCount_95d88
set_option maxRecDepth 20000 in
theorem ggX4_gap_X4_lowest : GoodIn wsX4_gap wsX4_lowest := goodIn_r _ [36, 37, 38, 39, 40, 41, 42, 8, 43, 44, 45, 46] (by decide +kernel) (by decide +kernel)
set_option maxRecDepth 20000 in
theorem gX4_gap_X4_lowest : GoodIn wsX4_gap (va_wsS RX4 116 yX4_lowest wsX4_lowest) := goodIn_app (goodIn_of _ (by decide +kernel)) ggX4_gap_X4_lowest
theorem dX4_gap_0 : decode cX4_gap 0 = .ok (.iload_n 1, 1) := by decide +kernel
theorem dX4_gap_1 : decode cX4_gap 1 = .ok (.invokestatic 55, 3) := by decide +kernel
theorem dX4_gap_4 : decode cX4_gap 4 = .ok (.ifCond .ne 7, 3) := by decide +kernel
theorem dX4_gap_7 : decode cX4_gap 7 = .ok (.ldc2_w 109, 3) := by decide +kernel
theorem dX4_gap_10 : decode cX4_gap 10 = .ok (.lreturn, 1) := by decide +kernel
theorem dX4_gap_11 : decode cX4_gap 11 = .ok (.iload_n 2, 1) := by decide +kernel
theorem dX4_gap_12 : decode cX4_gap 12 = .ok (.invokestatic 126, 3) := by decide +kernel
theorem dX4_gap_15 : decode cX4_gap 15 = .ok (.ifCond .eq 18, 3) := by decide +kernel
theorem dX4_gap_18 : decode cX4_gap 18 = .ok (.iload_n 3, 1) := by decide +kernel
theorem dX4_gap_19 : decode cX4_gap 19 = .ok (.invokestatic 126, 3) := by decide +kernel
theorem dX4_gap_22 : decode cX4_gap 22 = .ok (.ifCond .eq 11, 3) := by decide +kernel
theorem dX4_gap_25 : decode cX4_gap 25 = .ok (.iload 4, 2) := by decide +kernel
theorem dX4_gap_27 : decode cX4_gap 27 = .ok (.invokestatic 111, 3) := by decide +kernel
theorem dX4_gap_30 : decode cX4_gap 30 = .ok (.ifCond .ne 7, 3) := by decide +kernel
theorem dX4_gap_33 : decode cX4_gap 33 = .ok (.ldc2_w 114, 3) := by decide +kernel
theorem dX4_gap_36 : decode cX4_gap 36 = .ok (.lreturn, 1) := by decide +kernel
theorem dX4_gap_37 : decode cX4_gap 37 = .ok (.aload_n 0, 1) := by decide +kernel
theorem dX4_gap_38 : decode cX4_gap 38 = .ok (.getfield 10, 3) := by decide +kernel
theorem dX4_gap_41 : decode cX4_gap 41 = .ok (.iload_n 1, 1) := by decide +kernel
theorem dX4_gap_42 : decode cX4_gap 42 = .ok (.iload_n 2, 1) := by decide +kernel
theorem dX4_gap_43 : decode cX4_gap 43 = .ok (.invokevirtual 129, 3) := by decide +kernel
theorem dX4_gap_46 : decode cX4_gap 46 = .ok (.lstore 5, 2) := by decide +kernel
theorem dX4_gap_48 : decode cX4_gap 48 = .ok (.aload_n 0, 1) := by decide +kernel
theorem dX4_gap_49 : decode cX4_gap 49 = .ok (.getfield 10, 3) := by decide +kernel
theorem dX4_gap_52 : decode cX4_gap 52 = .ok (.iload_n 1, 1) := by decide +kernel
theorem dX4_gap_53 : decode cX4_gap 53 = .ok (.iload_n 3, 1) := by decide +kernel
theorem dX4_gap_54 : decode cX4_gap 54 = .ok (.invokevirtual 129, 3) := by decide +kernel
theorem dX4_gap_57 : decode cX4_gap 57 = .ok (.lstore 7, 2) := by decide +kernel
theorem dX4_gap_59 : decode cX4_gap 59 = .ok (.lload 5, 2) := by decide +kernel
theorem dX4_gap_61 : decode cX4_gap 61 = .ok (.lconst 0, 1) := by decide +kernel
theorem dX4_gap_62 : decode cX4_gap 62 = .ok (.lcmp, 1) := by decide +kernel
theorem dX4_gap_63 : decode cX4_gap 63 = .ok (.ifCond .eq 10, 3) := by decide +kernel
theorem dX4_gap_66 : decode cX4_gap 66 = .ok (.lload 7, 2) := by decide +kernel
theorem dX4_gap_68 : decode cX4_gap 68 = .ok (.lconst 0, 1) := by decide +kernel
theorem dX4_gap_69 : decode cX4_gap 69 = .ok (.lcmp, 1) := by decide +kernel
theorem dX4_gap_70 : decode cX4_gap 70 = .ok (.ifCond .ne 13, 3) := by decide +kernel
theorem dX4_gap_73 : decode cX4_gap 73 = .ok (.new 133, 3) := by decide +kernel
theorem dX4_gap_76 : decode cX4_gap 76 = .ok (.dup, 1) := by decide +kernel
theorem dX4_gap_77 : decode cX4_gap 77 = .ok (.ldc 135, 2) := by decide +kernel
theorem dX4_gap_79 : decode cX4_gap 79 = .ok (.invokespecial 137, 3) := by decide +kernel
theorem dX4_gap_82 : decode cX4_gap 82 = .ok (.athrow, 1) := by decide +kernel
theorem dX4_gap_83 : decode cX4_gap 83 = .ok (.lload 5, 2) := by decide +kernel
theorem dX4_gap_85 : decode cX4_gap 85 = .ok (.invokestatic 102, 3) := by decide +kernel
theorem dX4_gap_88 : decode cX4_gap 88 = .ok (.istore 9, 2) := by decide +kernel
theorem dX4_gap_90 : decode cX4_gap 90 = .ok (.lload 7, 2) := by decide +kernel
theorem dX4_gap_92 : decode cX4_gap 92 = .ok (.invokestatic 102, 3) := by decide +kernel
theorem dX4_gap_95 : decode cX4_gap 95 = .ok (.istore 10, 2) := by decide +kernel
theorem dX4_gap_97 : decode cX4_gap 97 = .ok (.lload 5, 2) := by decide +kernel
theorem dX4_gap_99 : decode cX4_gap 99 = .ok (.aload_n 0, 1) := by decide +kernel
theorem dX4_gap_100 : decode cX4_gap 100 = .ok (.getfield 10, 3) := by decide +kernel
theorem dX4_gap_103 : decode cX4_gap 103 = .ok (.getfield 67, 3) := by decide +kernel
theorem dX4_gap_106 : decode cX4_gap 106 = .ok (.land, 1) := by decide +kernel
theorem dX4_gap_107 : decode cX4_gap 107 = .ok (.invokestatic 102, 3) := by decide +kernel
theorem dX4_gap_110 : decode cX4_gap 110 = .ok (.istore 11, 2) := by decide +kernel
theorem dX4_gap_112 : decode cX4_gap 112 = .ok (.lload 7, 2) := by decide +kernel
theorem dX4_gap_114 : decode cX4_gap 114 = .ok (.aload_n 0, 1) := by decide +kernel
theorem dX4_gap_115 : decode cX4_gap 115 = .ok (.getfield 10, 3) := by decide +kernel
theorem dX4_gap_118 : decode cX4_gap 118 = .ok (.getfield 67, 3) := by decide +kernel
theorem dX4_gap_121 : decode cX4_gap 121 = .ok (.land, 1) := by decide +kernel
theorem dX4_gap_122 : decode cX4_gap 122 = .ok (.invokestatic 102, 3) := by decide +kernel
theorem dX4_gap_125 : decode cX4_gap 125 = .ok (.istore 12, 2) := by decide +kernel
theorem dX4_gap_127 : decode cX4_gap 127 = .ok (.iload 11, 2) := by decide +kernel
theorem dX4_gap_129 : decode cX4_gap 129 = .ok (.iload 10, 2) := by decide +kernel
theorem dX4_gap_131 : decode cX4_gap 131 = .ok (.imul, 1) := by decide +kernel
theorem dX4_gap_132 : decode cX4_gap 132 = .ok (.iload 12, 2) := by decide +kernel
theorem dX4_gap_134 : decode cX4_gap 134 = .ok (.iload 9, 2) := by decide +kernel
theorem dX4_gap_136 : decode cX4_gap 136 = .ok (.imul, 1) := by decide +kernel
theorem dX4_gap_137 : decode cX4_gap 137 = .ok (.isub, 1) := by decide +kernel
theorem dX4_gap_138 : decode cX4_gap 138 = .ok (.i2l, 1) := by decide +kernel
theorem dX4_gap_139 : decode cX4_gap 139 = .ok (.iload 9, 2) := by decide +kernel
theorem dX4_gap_141 : decode cX4_gap 141 = .ok (.iload 10, 2) := by decide +kernel
theorem dX4_gap_143 : decode cX4_gap 143 = .ok (.imul, 1) := by decide +kernel
theorem dX4_gap_144 : decode cX4_gap 144 = .ok (.i2l, 1) := by decide +kernel
theorem dX4_gap_145 : decode cX4_gap 145 = .ok (.iload 4, 2) := by decide +kernel
theorem dX4_gap_147 : decode cX4_gap 147 = .ok (.invokestatic 116, 3) := by decide +kernel
theorem dX4_gap_150 : decode cX4_gap 150 = .ok (.lreturn, 1) := by decide +kernel
set_option maxRecDepth 20000 in
theorem ggX4_window_X4_areTimes : GoodIn wsX4_window wsX4_areTimes := goodIn_r _ [6] (by decide +kernel) (by decide +kernel)
set_option maxRecDepth 20000 in
theorem gX4_window_X4_areTimes : GoodIn wsX4_window (va_wsS RX4 140 yX4_areTimes wsX4_areTimes) := goodIn_app (goodIn_of _ (by decide +kernel)) ggX4_window_X4_areTimes
set_option maxRecDepth 20000 in
theorem ggX4_window_X2_between : GoodIn wsX4_window wsX2_between := goodIn_r _ [11, 12, 13, 25, 26, 27, 28] (by decide +kernel) (by decide +kernel)
set_option maxRecDepth 20000 in
theorem gX4_window_X2_between : GoodIn wsX4_window (wsV RX4 143 RX2 yX2_between wsX2_between) := goodIn_app (goodIn_of _ (by decide +kernel)) ggX4_window_X2_between
set_option maxRecDepth 20000 in
theorem ggX4_window_J13_bitCount_95d88 : GoodIn wsX4_window wsJ13_bitCount_95d88 := goodIn_r _ [17, 18, 19, 20] (by decide +kernel) (by decide +kernel)
set_option maxRecDepth 20000 in
theorem gX4_window_J13_bitCount_95d88 : GoodIn wsX4_window (va_wsS RX4 102 yJ13_bitCount_95d88 wsJ13_bitCount_95d88) := goodIn_app (goodIn_of _ (by decide +kernel)) ggX4_window_J13_bitCount_95d88
theorem dX4_window_0 : decode cX4_window 0 = .ok (.iload_n 1, 1) := by decide +kernel
theorem dX4_window_1 : decode cX4_window 1 = .ok (.iload_n 1, 1) := by decide +kernel
theorem dX4_window_2 : decode cX4_window 2 = .ok (.iload_n 2, 1) := by decide +kernel
theorem dX4_window_3 : decode cX4_window 3 = .ok (.invokestatic 140, 3) := by decide +kernel
theorem dX4_window_6 : decode cX4_window 6 = .ok (.ifCond .ne 6, 3) := by decide +kernel
theorem dX4_window_9 : decode cX4_window 9 = .ok (.ldc 41, 2) := by decide +kernel
theorem dX4_window_11 : decode cX4_window 11 = .ok (.ireturn, 1) := by decide +kernel
theorem dX4_window_12 : decode cX4_window 12 = .ok (.aload_n 0, 1) := by decide +kernel
theorem dX4_window_13 : decode cX4_window 13 = .ok (.getfield 10, 3) := by decide +kernel
theorem dX4_window_16 : decode cX4_window 16 = .ok (.iload_n 1, 1) := by decide +kernel
theorem dX4_window_17 : decode cX4_window 17 = .ok (.iload_n 2, 1) := by decide +kernel
theorem dX4_window_18 : decode cX4_window 18 = .ok (.invokevirtual 143, 3) := by decide +kernel
theorem dX4_window_21 : decode cX4_window 21 = .ok (.invokestatic 102, 3) := by decide +kernel
theorem dX4_window_24 : decode cX4_window 24 = .ok (.ireturn, 1) := by decide +kernel
set_option maxRecDepth 20000 in
theorem ggX4_drift_X4_isColumn : GoodIn wsX4_drift wsX4_isColumn := goodIn_r _ [9, 10, 11, 8, 12] (by decide +kernel) (by decide +kernel)
set_option maxRecDepth 20000 in
theorem gX4_drift_X4_isColumn : GoodIn wsX4_drift (va_wsS RX4 55 yX4_isColumn wsX4_isColumn) := goodIn_app (goodIn_of _ (by decide +kernel)) ggX4_drift_X4_isColumn
set_option maxRecDepth 20000 in
theorem ggX4_drift_X4_areTimes : GoodIn wsX4_drift wsX4_areTimes := goodIn_r _ [15] (by decide +kernel) (by decide +kernel)
set_option maxRecDepth 20000 in
theorem gX4_drift_X4_areTimes : GoodIn wsX4_drift (va_wsS RX4 140 yX4_areTimes wsX4_areTimes) := goodIn_app (goodIn_of _ (by decide +kernel)) ggX4_drift_X4_areTimes
set_option maxRecDepth 20000 in
theorem ggX4_drift_X4_isPart : GoodIn wsX4_drift wsX4_isPart := goodIn_r _ [18, 10, 11, 8, 12] (by decide +kernel) (by decide +kernel)
set_option maxRecDepth 20000 in
theorem gX4_drift_X4_isPart : GoodIn wsX4_drift (va_wsS RX4 111 yX4_isPart wsX4_isPart) := goodIn_app (goodIn_of _ (by decide +kernel)) ggX4_drift_X4_isPart
set_option maxRecDepth 20000 in
theorem ggX4_drift_X2_between : GoodIn wsX4_drift wsX2_between := goodIn_r _ [23, 24, 25, 68, 69, 70, 71] (by decide +kernel) (by decide +kernel)
set_option maxRecDepth 20000 in
theorem gX4_drift_X2_between : GoodIn wsX4_drift (wsV RX4 143 RX2 yX2_between wsX2_between) := goodIn_app (goodIn_of _ (by decide +kernel)) ggX4_drift_X2_between
set_option maxRecDepth 20000 in
theorem ggX4_drift_X2_driftAbove : GoodIn wsX4_drift wsX2_driftAbove := goodIn_r _ [29, 30, 31, 32, 33, 34, 35, 36, 37, 38, 39, 40, 41, 42, 43, 22, 44, 45, 46, 8, 47, 68, 69, 70, 71] (by decide +kernel) (by decide +kernel)
set_option maxRecDepth 20000 in
theorem gX4_drift_X2_driftAbove : GoodIn wsX4_drift (wsV RX4 148 RX2 yX2_driftAbove wsX2_driftAbove) := goodIn_app (goodIn_of _ (by decide +kernel)) ggX4_drift_X2_driftAbove
set_option maxRecDepth 20000 in
theorem ggX4_drift_X4_driftBelow : GoodIn wsX4_drift wsX4_driftBelow := goodIn_r _ [50, 51, 35, 36, 37, 38, 39, 40] (by decide +kernel) (by decide +kernel)
set_option maxRecDepth 20000 in
theorem gX4_drift_X4_driftBelow : GoodIn wsX4_drift (va_wsS RX4 152 yX4_driftBelow wsX4_driftBelow) := goodIn_app (goodIn_of _ (by decide +kernel)) ggX4_drift_X4_driftBelow
set_option maxRecDepth 20000 in
theorem ggX4_drift_X4_lowest : GoodIn wsX4_drift wsX4_lowest := goodIn_r _ [54, 55, 56, 32, 57, 58, 59, 8, 60, 61, 62, 63] (by decide +kernel) (by decide +kernel)
set_option maxRecDepth 20000 in
theorem gX4_drift_X4_lowest : GoodIn wsX4_drift (va_wsS RX4 116 yX4_lowest wsX4_lowest) := goodIn_app (goodIn_of _ (by decide +kernel)) ggX4_drift_X4_lowest
theorem dX4_drift_0 : decode cX4_drift 0 = .ok (.iload_n 1, 1) := by decide +kernel
theorem dX4_drift_1 : decode cX4_drift 1 = .ok (.invokestatic 55, 3) := by decide +kernel
theorem dX4_drift_4 : decode cX4_drift 4 = .ok (.ifCond .ne 7, 3) := by decide +kernel
theorem dX4_drift_7 : decode cX4_drift 7 = .ok (.ldc2_w 109, 3) := by decide +kernel
theorem dX4_drift_10 : decode cX4_drift 10 = .ok (.lreturn, 1) := by decide +kernel
theorem dX4_drift_11 : decode cX4_drift 11 = .ok (.iload_n 2, 1) := by decide +kernel
theorem dX4_drift_12 : decode cX4_drift 12 = .ok (.iload_n 3, 1) := by decide +kernel
theorem dX4_drift_13 : decode cX4_drift 13 = .ok (.iload 4, 2) := by decide +kernel
theorem dX4_drift_15 : decode cX4_drift 15 = .ok (.invokestatic 140, 3) := by decide +kernel
theorem dX4_drift_18 : decode cX4_drift 18 = .ok (.ifCond .eq 11, 3) := by decide +kernel
theorem dX4_drift_21 : decode cX4_drift 21 = .ok (.iload 5, 2) := by decide +kernel
theorem dX4_drift_23 : decode cX4_drift 23 = .ok (.invokestatic 111, 3) := by decide +kernel
theorem dX4_drift_26 : decode cX4_drift 26 = .ok (.ifCond .ne 7, 3) := by decide +kernel
theorem dX4_drift_29 : decode cX4_drift 29 = .ok (.ldc2_w 114, 3) := by decide +kernel
theorem dX4_drift_32 : decode cX4_drift 32 = .ok (.lreturn, 1) := by decide +kernel
theorem dX4_drift_33 : decode cX4_drift 33 = .ok (.aload_n 0, 1) := by decide +kernel
theorem dX4_drift_34 : decode cX4_drift 34 = .ok (.getfield 10, 3) := by decide +kernel
theorem dX4_drift_37 : decode cX4_drift 37 = .ok (.iload_n 2, 1) := by decide +kernel
theorem dX4_drift_38 : decode cX4_drift 38 = .ok (.iload_n 3, 1) := by decide +kernel
theorem dX4_drift_39 : decode cX4_drift 39 = .ok (.invokevirtual 143, 3) := by decide +kernel
theorem dX4_drift_42 : decode cX4_drift 42 = .ok (.lstore 6, 2) := by decide +kernel
theorem dX4_drift_44 : decode cX4_drift 44 = .ok (.aload_n 0, 1) := by decide +kernel
theorem dX4_drift_45 : decode cX4_drift 45 = .ok (.getfield 10, 3) := by decide +kernel
theorem dX4_drift_48 : decode cX4_drift 48 = .ok (.iload_n 3, 1) := by decide +kernel
theorem dX4_drift_49 : decode cX4_drift 49 = .ok (.iload 4, 2) := by decide +kernel
theorem dX4_drift_51 : decode cX4_drift 51 = .ok (.invokevirtual 143, 3) := by decide +kernel
theorem dX4_drift_54 : decode cX4_drift 54 = .ok (.lstore 8, 2) := by decide +kernel
theorem dX4_drift_56 : decode cX4_drift 56 = .ok (.lload 6, 2) := by decide +kernel
theorem dX4_drift_58 : decode cX4_drift 58 = .ok (.lconst 0, 1) := by decide +kernel
theorem dX4_drift_59 : decode cX4_drift 59 = .ok (.lcmp, 1) := by decide +kernel
theorem dX4_drift_60 : decode cX4_drift 60 = .ok (.ifCond .eq 10, 3) := by decide +kernel
theorem dX4_drift_63 : decode cX4_drift 63 = .ok (.lload 8, 2) := by decide +kernel
theorem dX4_drift_65 : decode cX4_drift 65 = .ok (.lconst 0, 1) := by decide +kernel
theorem dX4_drift_66 : decode cX4_drift 66 = .ok (.lcmp, 1) := by decide +kernel
theorem dX4_drift_67 : decode cX4_drift 67 = .ok (.ifCond .ne 13, 3) := by decide +kernel
theorem dX4_drift_70 : decode cX4_drift 70 = .ok (.new 133, 3) := by decide +kernel
theorem dX4_drift_73 : decode cX4_drift 73 = .ok (.dup, 1) := by decide +kernel
theorem dX4_drift_74 : decode cX4_drift 74 = .ok (.ldc 146, 2) := by decide +kernel
theorem dX4_drift_76 : decode cX4_drift 76 = .ok (.invokespecial 137, 3) := by decide +kernel
theorem dX4_drift_79 : decode cX4_drift 79 = .ok (.athrow, 1) := by decide +kernel
theorem dX4_drift_80 : decode cX4_drift 80 = .ok (.aload_n 0, 1) := by decide +kernel
theorem dX4_drift_81 : decode cX4_drift 81 = .ok (.getfield 10, 3) := by decide +kernel
theorem dX4_drift_84 : decode cX4_drift 84 = .ok (.iload_n 1, 1) := by decide +kernel
theorem dX4_drift_85 : decode cX4_drift 85 = .ok (.lload 6, 2) := by decide +kernel
theorem dX4_drift_87 : decode cX4_drift 87 = .ok (.lload 8, 2) := by decide +kernel
theorem dX4_drift_89 : decode cX4_drift 89 = .ok (.invokevirtual 148, 3) := by decide +kernel
theorem dX4_drift_92 : decode cX4_drift 92 = .ok (.i2l, 1) := by decide +kernel
theorem dX4_drift_93 : decode cX4_drift 93 = .ok (.lload 6, 2) := by decide +kernel
theorem dX4_drift_95 : decode cX4_drift 95 = .ok (.lload 8, 2) := by decide +kernel
theorem dX4_drift_97 : decode cX4_drift 97 = .ok (.invokestatic 152, 3) := by decide +kernel
theorem dX4_drift_100 : decode cX4_drift 100 = .ok (.i2l, 1) := by decide +kernel
theorem dX4_drift_101 : decode cX4_drift 101 = .ok (.iload 5, 2) := by decide +kernel
theorem dX4_drift_103 : decode cX4_drift 103 = .ok (.invokestatic 116, 3) := by decide +kernel
theorem dX4_drift_106 : decode cX4_drift 106 = .ok (.lreturn, 1) := by decide +kernel
set_option maxRecDepth 20000 in
theorem ggX4_rise_X4_isColumn : GoodIn wsX4_rise wsX4_isColumn := goodIn_r _ [8, 9, 10, 7, 11] (by decide +kernel) (by decide +kernel)
set_option maxRecDepth 20000 in
theorem gX4_rise_X4_isColumn : GoodIn wsX4_rise (va_wsS RX4 55 yX4_isColumn wsX4_isColumn) := goodIn_app (goodIn_of _ (by decide +kernel)) ggX4_rise_X4_isColumn
set_option maxRecDepth 20000 in
theorem ggX4_rise_X4_areTimes : GoodIn wsX4_rise wsX4_areTimes := goodIn_r _ [14] (by decide +kernel) (by decide +kernel)
set_option maxRecDepth 20000 in
theorem gX4_rise_X4_areTimes : GoodIn wsX4_rise (va_wsS RX4 140 yX4_areTimes wsX4_areTimes) := goodIn_app (goodIn_of _ (by decide +kernel)) ggX4_rise_X4_areTimes
set_option maxRecDepth 20000 in
theorem ggX4_rise_X2_between : GoodIn wsX4_rise wsX2_between := goodIn_r _ [19, 20, 21, 53, 54, 55, 56] (by decide +kernel) (by decide +kernel)
set_option maxRecDepth 20000 in
theorem gX4_rise_X2_between : GoodIn wsX4_rise (wsV RX4 143 RX2 yX2_between wsX2_between) := goodIn_app (goodIn_of _ (by decide +kernel)) ggX4_rise_X2_between
set_option maxRecDepth 20000 in
theorem ggX4_rise_X1_take : GoodIn wsX4_rise wsX1_take := goodIn_r _ [26, 27, 28, 29, 30, 31, 32, 33, 18, 34, 35, 36, 7, 37, 38, 39, 40, 41, 42, 43, 44, 57, 58, 59, 60, 61, 53, 54, 55, 56] (by decide +kernel) (by decide +kernel)
set_option maxRecDepth 20000 in
theorem gX4_rise_X1_take : GoodIn wsX4_rise (wsV RX4 156 RX1 yX1_take wsX1_take) := goodIn_app (goodIn_of _ (by decide +kernel)) ggX4_rise_X1_take
set_option maxRecDepth 20000 in
theorem ggX4_rise_X1_risen : GoodIn wsX4_rise wsX1_risen := goodIn_r _ [48, 30, 29, 57, 58, 59, 60, 61] (by decide +kernel) (by decide +kernel)
set_option maxRecDepth 20000 in
theorem gX4_rise_X1_risen : GoodIn wsX4_rise (wsV RX4 160 RX1 yX1_risen wsX1_risen) := goodIn_app (goodIn_of _ (by decide +kernel)) ggX4_rise_X1_risen
theorem dX4_rise_0 : decode cX4_rise 0 = .ok (.iload_n 1, 1) := by decide +kernel
theorem dX4_rise_1 : decode cX4_rise 1 = .ok (.invokestatic 55, 3) := by decide +kernel
theorem dX4_rise_4 : decode cX4_rise 4 = .ok (.ifCond .ne 6, 3) := by decide +kernel
theorem dX4_rise_7 : decode cX4_rise 7 = .ok (.ldc 58, 2) := by decide +kernel
theorem dX4_rise_9 : decode cX4_rise 9 = .ok (.ireturn, 1) := by decide +kernel
theorem dX4_rise_10 : decode cX4_rise 10 = .ok (.iload_n 2, 1) := by decide +kernel
theorem dX4_rise_11 : decode cX4_rise 11 = .ok (.iload_n 3, 1) := by decide +kernel
theorem dX4_rise_12 : decode cX4_rise 12 = .ok (.iload 4, 2) := by decide +kernel
theorem dX4_rise_14 : decode cX4_rise 14 = .ok (.invokestatic 140, 3) := by decide +kernel
theorem dX4_rise_17 : decode cX4_rise 17 = .ok (.ifCond .ne 6, 3) := by decide +kernel
theorem dX4_rise_20 : decode cX4_rise 20 = .ok (.ldc 41, 2) := by decide +kernel
theorem dX4_rise_22 : decode cX4_rise 22 = .ok (.ireturn, 1) := by decide +kernel
theorem dX4_rise_23 : decode cX4_rise 23 = .ok (.aload_n 0, 1) := by decide +kernel
theorem dX4_rise_24 : decode cX4_rise 24 = .ok (.getfield 26, 3) := by decide +kernel
theorem dX4_rise_27 : decode cX4_rise 27 = .ok (.aload_n 0, 1) := by decide +kernel
theorem dX4_rise_28 : decode cX4_rise 28 = .ok (.getfield 10, 3) := by decide +kernel
theorem dX4_rise_31 : decode cX4_rise 31 = .ok (.iload_n 1, 1) := by decide +kernel
theorem dX4_rise_32 : decode cX4_rise 32 = .ok (.aload_n 0, 1) := by decide +kernel
theorem dX4_rise_33 : decode cX4_rise 33 = .ok (.getfield 10, 3) := by decide +kernel
theorem dX4_rise_36 : decode cX4_rise 36 = .ok (.iload_n 2, 1) := by decide +kernel
theorem dX4_rise_37 : decode cX4_rise 37 = .ok (.iload_n 3, 1) := by decide +kernel
theorem dX4_rise_38 : decode cX4_rise 38 = .ok (.invokevirtual 143, 3) := by decide +kernel
theorem dX4_rise_41 : decode cX4_rise 41 = .ok (.aload_n 0, 1) := by decide +kernel
theorem dX4_rise_42 : decode cX4_rise 42 = .ok (.getfield 10, 3) := by decide +kernel
theorem dX4_rise_45 : decode cX4_rise 45 = .ok (.iload_n 3, 1) := by decide +kernel
theorem dX4_rise_46 : decode cX4_rise 46 = .ok (.iload 4, 2) := by decide +kernel
theorem dX4_rise_48 : decode cX4_rise 48 = .ok (.invokevirtual 143, 3) := by decide +kernel
theorem dX4_rise_51 : decode cX4_rise 51 = .ok (.invokevirtual 156, 3) := by decide +kernel
theorem dX4_rise_54 : decode cX4_rise 54 = .ok (.aload_n 0, 1) := by decide +kernel
theorem dX4_rise_55 : decode cX4_rise 55 = .ok (.getfield 26, 3) := by decide +kernel
theorem dX4_rise_58 : decode cX4_rise 58 = .ok (.invokevirtual 160, 3) := by decide +kernel
theorem dX4_rise_61 : decode cX4_rise 61 = .ok (.ireturn, 1) := by decide +kernel
set_option maxRecDepth 20000 in
theorem ggX4_odds_X4_isColumn : GoodIn wsX4_odds wsX4_isColumn := goodIn_r _ [9, 10, 11, 8, 12] (by decide +kernel) (by decide +kernel)
set_option maxRecDepth 20000 in
theorem gX4_odds_X4_isColumn : GoodIn wsX4_odds (va_wsS RX4 55 yX4_isColumn wsX4_isColumn) := goodIn_app (goodIn_of _ (by decide +kernel)) ggX4_odds_X4_isColumn
set_option maxRecDepth 20000 in
theorem ggX4_odds_X4_areTimes : GoodIn wsX4_odds wsX4_areTimes := goodIn_r _ [15] (by decide +kernel) (by decide +kernel)
set_option maxRecDepth 20000 in
theorem gX4_odds_X4_areTimes : GoodIn wsX4_odds (va_wsS RX4 140 yX4_areTimes wsX4_areTimes) := goodIn_app (goodIn_of _ (by decide +kernel)) ggX4_odds_X4_areTimes
set_option maxRecDepth 20000 in
theorem ggX4_odds_X4_isPart : GoodIn wsX4_odds wsX4_isPart := goodIn_r _ [18, 10, 11, 8, 12] (by decide +kernel) (by decide +kernel)
set_option maxRecDepth 20000 in
theorem gX4_odds_X4_isPart : GoodIn wsX4_odds (va_wsS RX4 111 yX4_isPart wsX4_isPart) := goodIn_app (goodIn_of _ (by decide +kernel)) ggX4_odds_X4_isPart
set_option maxRecDepth 20000 in
theorem ggX4_odds_X2_between : GoodIn wsX4_odds wsX2_between := goodIn_r _ [23, 24, 25, 101, 102, 103, 104] (by decide +kernel) (by decide +kernel)
set_option maxRecDepth 20000 in
theorem gX4_odds_X2_between : GoodIn wsX4_odds (wsV RX4 143 RX2 yX2_between wsX2_between) := goodIn_app (goodIn_of _ (by decide +kernel)) ggX4_odds_X2_between
set_option maxRecDepth 20000 in
theorem ggX4_odds_X1_take : GoodIn wsX4_odds wsX1_take := goodIn_r _ [30, 31, 32, 33, 34, 35, 36, 37, 22, 38, 39, 40, 8, 41, 42, 43, 44, 45, 46, 47, 48, 96, 97, 98, 99, 100, 101, 102, 103, 104] (by decide +kernel) (by decide +kernel)
set_option maxRecDepth 20000 in
theorem gX4_odds_X1_take : GoodIn wsX4_odds (wsV RX4 156 RX1 yX1_take wsX1_take) := goodIn_app (goodIn_of _ (by decide +kernel)) ggX4_odds_X1_take
set_option maxRecDepth 20000 in
theorem ggX4_odds_X1_risen : GoodIn wsX4_odds wsX1_risen := goodIn_r _ [52, 34, 33, 96, 97, 98, 99, 100] (by decide +kernel) (by decide +kernel)
set_option maxRecDepth 20000 in
theorem gX4_odds_X1_risen : GoodIn wsX4_odds (wsV RX4 160 RX1 yX1_risen wsX1_risen) := goodIn_app (goodIn_of _ (by decide +kernel)) ggX4_odds_X1_risen
set_option maxRecDepth 20000 in
theorem ggX4_odds_X1_waysToRise : GoodIn wsX4_odds wsX1_waysToRise := goodIn_r _ [56, 31, 32, 57, 33, 34, 58, 59, 60, 61, 62, 63, 64, 65, 66, 67, 68, 29, 69, 70, 71, 72, 73, 74, 75, 76, 77, 8, 78, 96, 97, 98, 99, 100] (by decide +kernel) (by decide +kernel)
set_option maxRecDepth 20000 in
theorem gX4_odds_X1_waysToRise : GoodIn wsX4_odds (wsV RX4 172 RX1 yX1_waysToRise wsX1_waysToRise) := goodIn_app (goodIn_of _ (by decide +kernel)) ggX4_odds_X1_waysToRise
set_option maxRecDepth 20000 in
theorem ggX4_odds_X4_waysToChoose : GoodIn wsX4_odds wsX4_waysToChoose := goodIn_r _ [78] (by decide +kernel) (by decide +kernel)
set_option maxRecDepth 20000 in
theorem gX4_odds_X4_waysToChoose : GoodIn wsX4_odds (va_wsS RX4 175 yX4_waysToChoose wsX4_waysToChoose) := goodIn_app (goodIn_of _ (by decide +kernel)) ggX4_odds_X4_waysToChoose
set_option maxRecDepth 20000 in
theorem ggX4_odds_X4_lowest : GoodIn wsX4_odds wsX4_lowest := goodIn_r _ [82, 83, 84, 60, 85, 86, 87, 8, 88, 89, 90, 91] (by decide +kernel) (by decide +kernel)
set_option maxRecDepth 20000 in
theorem gX4_odds_X4_lowest : GoodIn wsX4_odds (va_wsS RX4 116 yX4_lowest wsX4_lowest) := goodIn_app (goodIn_of _ (by decide +kernel)) ggX4_odds_X4_lowest
theorem dX4_odds_0 : decode cX4_odds 0 = .ok (.iload_n 1, 1) := by decide +kernel
theorem dX4_odds_1 : decode cX4_odds 1 = .ok (.invokestatic 55, 3) := by decide +kernel
theorem dX4_odds_4 : decode cX4_odds 4 = .ok (.ifCond .ne 7, 3) := by decide +kernel
theorem dX4_odds_7 : decode cX4_odds 7 = .ok (.ldc2_w 109, 3) := by decide +kernel
theorem dX4_odds_10 : decode cX4_odds 10 = .ok (.lreturn, 1) := by decide +kernel
theorem dX4_odds_11 : decode cX4_odds 11 = .ok (.iload_n 2, 1) := by decide +kernel
theorem dX4_odds_12 : decode cX4_odds 12 = .ok (.iload_n 3, 1) := by decide +kernel
theorem dX4_odds_13 : decode cX4_odds 13 = .ok (.iload 4, 2) := by decide +kernel
theorem dX4_odds_15 : decode cX4_odds 15 = .ok (.invokestatic 140, 3) := by decide +kernel
theorem dX4_odds_18 : decode cX4_odds 18 = .ok (.ifCond .eq 11, 3) := by decide +kernel
theorem dX4_odds_21 : decode cX4_odds 21 = .ok (.iload 5, 2) := by decide +kernel
theorem dX4_odds_23 : decode cX4_odds 23 = .ok (.invokestatic 111, 3) := by decide +kernel
theorem dX4_odds_26 : decode cX4_odds 26 = .ok (.ifCond .ne 7, 3) := by decide +kernel
theorem dX4_odds_29 : decode cX4_odds 29 = .ok (.ldc2_w 114, 3) := by decide +kernel
theorem dX4_odds_32 : decode cX4_odds 32 = .ok (.lreturn, 1) := by decide +kernel
theorem dX4_odds_33 : decode cX4_odds 33 = .ok (.aload_n 0, 1) := by decide +kernel
theorem dX4_odds_34 : decode cX4_odds 34 = .ok (.getfield 26, 3) := by decide +kernel
theorem dX4_odds_37 : decode cX4_odds 37 = .ok (.aload_n 0, 1) := by decide +kernel
theorem dX4_odds_38 : decode cX4_odds 38 = .ok (.getfield 10, 3) := by decide +kernel
theorem dX4_odds_41 : decode cX4_odds 41 = .ok (.iload_n 1, 1) := by decide +kernel
theorem dX4_odds_42 : decode cX4_odds 42 = .ok (.aload_n 0, 1) := by decide +kernel
theorem dX4_odds_43 : decode cX4_odds 43 = .ok (.getfield 10, 3) := by decide +kernel
theorem dX4_odds_46 : decode cX4_odds 46 = .ok (.iload_n 2, 1) := by decide +kernel
theorem dX4_odds_47 : decode cX4_odds 47 = .ok (.iload_n 3, 1) := by decide +kernel
theorem dX4_odds_48 : decode cX4_odds 48 = .ok (.invokevirtual 143, 3) := by decide +kernel
theorem dX4_odds_51 : decode cX4_odds 51 = .ok (.aload_n 0, 1) := by decide +kernel
theorem dX4_odds_52 : decode cX4_odds 52 = .ok (.getfield 10, 3) := by decide +kernel
theorem dX4_odds_55 : decode cX4_odds 55 = .ok (.iload_n 3, 1) := by decide +kernel
theorem dX4_odds_56 : decode cX4_odds 56 = .ok (.iload 4, 2) := by decide +kernel
theorem dX4_odds_58 : decode cX4_odds 58 = .ok (.invokevirtual 143, 3) := by decide +kernel
theorem dX4_odds_61 : decode cX4_odds 61 = .ok (.invokevirtual 156, 3) := by decide +kernel
theorem dX4_odds_64 : decode cX4_odds 64 = .ok (.aload_n 0, 1) := by decide +kernel
theorem dX4_odds_65 : decode cX4_odds 65 = .ok (.getfield 26, 3) := by decide +kernel
theorem dX4_odds_68 : decode cX4_odds 68 = .ok (.getfield 164, 3) := by decide +kernel
theorem dX4_odds_71 : decode cX4_odds 71 = .ok (.aload_n 0, 1) := by decide +kernel
theorem dX4_odds_72 : decode cX4_odds 72 = .ok (.getfield 26, 3) := by decide +kernel
theorem dX4_odds_75 : decode cX4_odds 75 = .ok (.getfield 167, 3) := by decide +kernel
theorem dX4_odds_78 : decode cX4_odds 78 = .ok (.iadd, 1) := by decide +kernel
theorem dX4_odds_79 : decode cX4_odds 79 = .ok (.istore 6, 2) := by decide +kernel
theorem dX4_odds_81 : decode cX4_odds 81 = .ok (.iload 6, 2) := by decide +kernel
theorem dX4_odds_83 : decode cX4_odds 83 = .ok (.bipush 20, 2) := by decide +kernel
theorem dX4_odds_85 : decode cX4_odds 85 = .ok (.if_icmp .le 7, 3) := by decide +kernel
theorem dX4_odds_88 : decode cX4_odds 88 = .ok (.ldc2_w 170, 3) := by decide +kernel
theorem dX4_odds_91 : decode cX4_odds 91 = .ok (.lreturn, 1) := by decide +kernel
theorem dX4_odds_92 : decode cX4_odds 92 = .ok (.aload_n 0, 1) := by decide +kernel
theorem dX4_odds_93 : decode cX4_odds 93 = .ok (.getfield 26, 3) := by decide +kernel
theorem dX4_odds_96 : decode cX4_odds 96 = .ok (.aload_n 0, 1) := by decide +kernel
theorem dX4_odds_97 : decode cX4_odds 97 = .ok (.getfield 26, 3) := by decide +kernel
theorem dX4_odds_100 : decode cX4_odds 100 = .ok (.invokevirtual 160, 3) := by decide +kernel
theorem dX4_odds_103 : decode cX4_odds 103 = .ok (.invokevirtual 172, 3) := by decide +kernel
theorem dX4_odds_106 : decode cX4_odds 106 = .ok (.i2l, 1) := by decide +kernel
theorem dX4_odds_107 : decode cX4_odds 107 = .ok (.iload 6, 2) := by decide +kernel
theorem dX4_odds_109 : decode cX4_odds 109 = .ok (.aload_n 0, 1) := by decide +kernel
theorem dX4_odds_110 : decode cX4_odds 110 = .ok (.getfield 26, 3) := by decide +kernel
theorem dX4_odds_113 : decode cX4_odds 113 = .ok (.getfield 164, 3) := by decide +kernel
theorem dX4_odds_116 : decode cX4_odds 116 = .ok (.invokestatic 175, 3) := by decide +kernel
theorem dX4_odds_119 : decode cX4_odds 119 = .ok (.i2l, 1) := by decide +kernel
theorem dX4_odds_120 : decode cX4_odds 120 = .ok (.iload 5, 2) := by decide +kernel
theorem dX4_odds_122 : decode cX4_odds 122 = .ok (.invokestatic 116, 3) := by decide +kernel
theorem dX4_odds_125 : decode cX4_odds 125 = .ok (.lreturn, 1) := by decide +kernel
set_option maxRecDepth 20000 in
theorem ggX4_fresh_X4_isColumn : GoodIn wsX4_fresh wsX4_isColumn := goodIn_r _ [7, 8, 9, 6, 10] (by decide +kernel) (by decide +kernel)
set_option maxRecDepth 20000 in
theorem gX4_fresh_X4_isColumn : GoodIn wsX4_fresh (va_wsS RX4 55 yX4_isColumn wsX4_isColumn) := goodIn_app (goodIn_of _ (by decide +kernel)) ggX4_fresh_X4_isColumn
set_option maxRecDepth 20000 in
theorem ggX4_fresh_X4_areTimes : GoodIn wsX4_fresh wsX4_areTimes := goodIn_r _ [13] (by decide +kernel) (by decide +kernel)
set_option maxRecDepth 20000 in
theorem gX4_fresh_X4_areTimes : GoodIn wsX4_fresh (va_wsS RX4 140 yX4_areTimes wsX4_areTimes) := goodIn_app (goodIn_of _ (by decide +kernel)) ggX4_fresh_X4_areTimes
set_option maxRecDepth 20000 in
theorem ggX4_fresh_X2_between : GoodIn wsX4_fresh wsX2_between := goodIn_r _ [18, 19, 20, 32, 33, 34, 35] (by decide +kernel) (by decide +kernel)
set_option maxRecDepth 20000 in
theorem gX4_fresh_X2_between : GoodIn wsX4_fresh (wsV RX4 143 RX2 yX2_between wsX2_between) := goodIn_app (goodIn_of _ (by decide +kernel)) ggX4_fresh_X2_between
set_option maxRecDepth 20000 in
theorem ggX4_fresh_X2_withSort : GoodIn wsX4_fresh wsX2_withSort := goodIn_r _ [24, 25, 26, 6, 27, 32, 33, 34, 35] (by decide +kernel) (by decide +kernel)
set_option maxRecDepth 20000 in
theorem gX4_fresh_X2_withSort : GoodIn wsX4_fresh (wsV RX4 129 RX2 yX2_withSort wsX2_withSort) := goodIn_app (goodIn_of _ (by decide +kernel)) ggX4_fresh_X2_withSort
theorem dX4_fresh_0 : decode cX4_fresh 0 = .ok (.iload_n 1, 1) := by decide +kernel
theorem dX4_fresh_1 : decode cX4_fresh 1 = .ok (.invokestatic 55, 3) := by decide +kernel
theorem dX4_fresh_4 : decode cX4_fresh 4 = .ok (.ifCond .ne 6, 3) := by decide +kernel
theorem dX4_fresh_7 : decode cX4_fresh 7 = .ok (.ldc 58, 2) := by decide +kernel
theorem dX4_fresh_9 : decode cX4_fresh 9 = .ok (.ireturn, 1) := by decide +kernel
theorem dX4_fresh_10 : decode cX4_fresh 10 = .ok (.iload_n 2, 1) := by decide +kernel
theorem dX4_fresh_11 : decode cX4_fresh 11 = .ok (.iload_n 3, 1) := by decide +kernel
theorem dX4_fresh_12 : decode cX4_fresh 12 = .ok (.iload 4, 2) := by decide +kernel
theorem dX4_fresh_14 : decode cX4_fresh 14 = .ok (.invokestatic 140, 3) := by decide +kernel
theorem dX4_fresh_17 : decode cX4_fresh 17 = .ok (.ifCond .eq 9, 3) := by decide +kernel
theorem dX4_fresh_20 : decode cX4_fresh 20 = .ok (.iload 5, 2) := by decide +kernel
theorem dX4_fresh_22 : decode cX4_fresh 22 = .ok (.iconst (-1), 1) := by decide +kernel
theorem dX4_fresh_23 : decode cX4_fresh 23 = .ok (.if_icmp .ge 6, 3) := by decide +kernel
theorem dX4_fresh_26 : decode cX4_fresh 26 = .ok (.ldc 41, 2) := by decide +kernel
theorem dX4_fresh_28 : decode cX4_fresh 28 = .ok (.ireturn, 1) := by decide +kernel
theorem dX4_fresh_29 : decode cX4_fresh 29 = .ok (.aload_n 0, 1) := by decide +kernel
theorem dX4_fresh_30 : decode cX4_fresh 30 = .ok (.getfield 10, 3) := by decide +kernel
theorem dX4_fresh_33 : decode cX4_fresh 33 = .ok (.iload_n 2, 1) := by decide +kernel
theorem dX4_fresh_34 : decode cX4_fresh 34 = .ok (.iload_n 3, 1) := by decide +kernel
theorem dX4_fresh_35 : decode cX4_fresh 35 = .ok (.invokevirtual 143, 3) := by decide +kernel
theorem dX4_fresh_38 : decode cX4_fresh 38 = .ok (.lstore 6, 2) := by decide +kernel
theorem dX4_fresh_40 : decode cX4_fresh 40 = .ok (.aload_n 0, 1) := by decide +kernel
theorem dX4_fresh_41 : decode cX4_fresh 41 = .ok (.getfield 10, 3) := by decide +kernel
theorem dX4_fresh_44 : decode cX4_fresh 44 = .ok (.iload_n 3, 1) := by decide +kernel
theorem dX4_fresh_45 : decode cX4_fresh 45 = .ok (.iload 4, 2) := by decide +kernel
theorem dX4_fresh_47 : decode cX4_fresh 47 = .ok (.invokevirtual 143, 3) := by decide +kernel
theorem dX4_fresh_50 : decode cX4_fresh 50 = .ok (.lstore 8, 2) := by decide +kernel
theorem dX4_fresh_52 : decode cX4_fresh 52 = .ok (.iconst 0, 1) := by decide +kernel
theorem dX4_fresh_53 : decode cX4_fresh 53 = .ok (.istore 10, 2) := by decide +kernel
theorem dX4_fresh_55 : decode cX4_fresh 55 = .ok (.iconst 0, 1) := by decide +kernel
theorem dX4_fresh_56 : decode cX4_fresh 56 = .ok (.istore 11, 2) := by decide +kernel
theorem dX4_fresh_58 : decode cX4_fresh 58 = .ok (.iload 11, 2) := by decide +kernel
theorem dX4_fresh_60 : decode cX4_fresh 60 = .ok (.bipush 10, 2) := by decide +kernel
theorem dX4_fresh_62 : decode cX4_fresh 62 = .ok (.if_icmp .ge 54, 3) := by decide +kernel
theorem dX4_fresh_65 : decode cX4_fresh 65 = .ok (.aload_n 0, 1) := by decide +kernel
theorem dX4_fresh_66 : decode cX4_fresh 66 = .ok (.getfield 10, 3) := by decide +kernel
theorem dX4_fresh_69 : decode cX4_fresh 69 = .ok (.iload_n 1, 1) := by decide +kernel
theorem dX4_fresh_70 : decode cX4_fresh 70 = .ok (.iload 11, 2) := by decide +kernel
theorem dX4_fresh_72 : decode cX4_fresh 72 = .ok (.invokevirtual 129, 3) := by decide +kernel
theorem dX4_fresh_75 : decode cX4_fresh 75 = .ok (.lstore 12, 2) := by decide +kernel
theorem dX4_fresh_77 : decode cX4_fresh 77 = .ok (.lload 12, 2) := by decide +kernel
theorem dX4_fresh_79 : decode cX4_fresh 79 = .ok (.lload 6, 2) := by decide +kernel
theorem dX4_fresh_81 : decode cX4_fresh 81 = .ok (.land, 1) := by decide +kernel
theorem dX4_fresh_82 : decode cX4_fresh 82 = .ok (.lconst 0, 1) := by decide +kernel
theorem dX4_fresh_83 : decode cX4_fresh 83 = .ok (.lcmp, 1) := by decide +kernel
theorem dX4_fresh_84 : decode cX4_fresh 84 = .ok (.ifCond .ne 26, 3) := by decide +kernel
theorem dX4_fresh_87 : decode cX4_fresh 87 = .ok (.lload 12, 2) := by decide +kernel
theorem dX4_fresh_89 : decode cX4_fresh 89 = .ok (.lload 8, 2) := by decide +kernel
theorem dX4_fresh_91 : decode cX4_fresh 91 = .ok (.land, 1) := by decide +kernel
theorem dX4_fresh_92 : decode cX4_fresh 92 = .ok (.lconst 0, 1) := by decide +kernel
theorem dX4_fresh_93 : decode cX4_fresh 93 = .ok (.lcmp, 1) := by decide +kernel
theorem dX4_fresh_94 : decode cX4_fresh 94 = .ok (.ifCond .eq 16, 3) := by decide +kernel
theorem dX4_fresh_97 : decode cX4_fresh 97 = .ok (.iload 10, 2) := by decide +kernel
theorem dX4_fresh_99 : decode cX4_fresh 99 = .ok (.iload 5, 2) := by decide +kernel
theorem dX4_fresh_101 : decode cX4_fresh 101 = .ok (.if_icmp .ne 6, 3) := by decide +kernel
theorem dX4_fresh_104 : decode cX4_fresh 104 = .ok (.iload 11, 2) := by decide +kernel
theorem dX4_fresh_106 : decode cX4_fresh 106 = .ok (.ireturn, 1) := by decide +kernel
theorem dX4_fresh_107 : decode cX4_fresh 107 = .ok (.iinc 10 1, 3) := by decide +kernel
theorem dX4_fresh_110 : decode cX4_fresh 110 = .ok (.iinc 11 1, 3) := by decide +kernel
theorem dX4_fresh_113 : decode cX4_fresh 113 = .ok (.goto (-55), 3) := by decide +kernel
theorem dX4_fresh_116 : decode cX4_fresh 116 = .ok (.iload 5, 2) := by decide +kernel
theorem dX4_fresh_118 : decode cX4_fresh 118 = .ok (.iconst (-1), 1) := by decide +kernel
theorem dX4_fresh_119 : decode cX4_fresh 119 = .ok (.if_icmp .ne 8, 3) := by decide +kernel
theorem dX4_fresh_122 : decode cX4_fresh 122 = .ok (.iload 10, 2) := by decide +kernel
theorem dX4_fresh_124 : decode cX4_fresh 124 = .ok (.goto 4, 3) := by decide +kernel
theorem dX4_fresh_127 : decode cX4_fresh 127 = .ok (.iconst (-1), 1) := by decide +kernel
theorem dX4_fresh_128 : decode cX4_fresh 128 = .ok (.ireturn, 1) := by decide +kernel
set_option maxRecDepth 20000 in
theorem ggX4_shift_X4_isColumn : GoodIn wsX4_shift wsX4_isColumn := goodIn_r _ [10, 11, 12, 9, 13] (by decide +kernel) (by decide +kernel)
set_option maxRecDepth 20000 in
theorem gX4_shift_X4_isColumn : GoodIn wsX4_shift (va_wsS RX4 55 yX4_isColumn wsX4_isColumn) := goodIn_app (goodIn_of _ (by decide +kernel)) ggX4_shift_X4_isColumn
set_option maxRecDepth 20000 in
theorem ggX4_shift_X4_areTimes : GoodIn wsX4_shift wsX4_areTimes := goodIn_r _ [16] (by decide +kernel) (by decide +kernel)
set_option maxRecDepth 20000 in
theorem gX4_shift_X4_areTimes : GoodIn wsX4_shift (va_wsS RX4 140 yX4_areTimes wsX4_areTimes) := goodIn_app (goodIn_of _ (by decide +kernel)) ggX4_shift_X4_areTimes
set_option maxRecDepth 20000 in
theorem ggX4_shift_X4_isPart : GoodIn wsX4_shift wsX4_isPart := goodIn_r _ [19, 11, 12, 9, 13] (by decide +kernel) (by decide +kernel)
set_option maxRecDepth 20000 in
theorem gX4_shift_X4_isPart : GoodIn wsX4_shift (va_wsS RX4 111 yX4_isPart wsX4_isPart) := goodIn_app (goodIn_of _ (by decide +kernel)) ggX4_shift_X4_isPart
set_option maxRecDepth 20000 in
theorem ggX4_shift_X2_between : GoodIn wsX4_shift wsX2_between := goodIn_r _ [24, 25, 26, 58, 59, 60, 61] (by decide +kernel) (by decide +kernel)
set_option maxRecDepth 20000 in
theorem gX4_shift_X2_between : GoodIn wsX4_shift (wsV RX4 143 RX2 yX2_between wsX2_between) := goodIn_app (goodIn_of _ (by decide +kernel)) ggX4_shift_X2_between
set_option maxRecDepth 20000 in
theorem ggX4_shift_X2_withSort : GoodIn wsX4_shift wsX2_withSort := goodIn_r _ [30, 31, 32, 9, 33, 58, 59, 60, 61] (by decide +kernel) (by decide +kernel)
set_option maxRecDepth 20000 in
theorem gX4_shift_X2_withSort : GoodIn wsX4_shift (wsV RX4 129 RX2 yX2_withSort wsX2_withSort) := goodIn_app (goodIn_of _ (by decide +kernel)) ggX4_shift_X2_withSort
set_option maxRecDepth 20000 in
theorem ggX4_shift_J13_bitCount_95d88 : GoodIn wsX4_shift wsJ13_bitCount_95d88 := goodIn_r _ [37, 38, 39, 40] (by decide +kernel) (by decide +kernel)
set_option maxRecDepth 20000 in
theorem gX4_shift_J13_bitCount_95d88 : GoodIn wsX4_shift (va_wsS RX4 102 yJ13_bitCount_95d88 wsJ13_bitCount_95d88) := goodIn_app (goodIn_of _ (by decide +kernel)) ggX4_shift_J13_bitCount_95d88
set_option maxRecDepth 20000 in
theorem ggX4_shift_X4_lowest : GoodIn wsX4_shift wsX4_lowest := goodIn_r _ [43, 44, 45, 46, 47, 48, 49, 9, 50, 51, 52, 53] (by decide +kernel) (by decide +kernel)
set_option maxRecDepth 20000 in
theorem gX4_shift_X4_lowest : GoodIn wsX4_shift (va_wsS RX4 116 yX4_lowest wsX4_lowest) := goodIn_app (goodIn_of _ (by decide +kernel)) ggX4_shift_X4_lowest
theorem dX4_shift_0 : decode cX4_shift 0 = .ok (.iload_n 1, 1) := by decide +kernel
theorem dX4_shift_1 : decode cX4_shift 1 = .ok (.invokestatic 55, 3) := by decide +kernel
theorem dX4_shift_4 : decode cX4_shift 4 = .ok (.ifCond .eq 15, 3) := by decide +kernel
theorem dX4_shift_7 : decode cX4_shift 7 = .ok (.iload_n 2, 1) := by decide +kernel
theorem dX4_shift_8 : decode cX4_shift 8 = .ok (.invokestatic 55, 3) := by decide +kernel
theorem dX4_shift_11 : decode cX4_shift 11 = .ok (.ifCond .eq 8, 3) := by decide +kernel
theorem dX4_shift_14 : decode cX4_shift 14 = .ok (.iload_n 1, 1) := by decide +kernel
theorem dX4_shift_15 : decode cX4_shift 15 = .ok (.iload_n 2, 1) := by decide +kernel
theorem dX4_shift_16 : decode cX4_shift 16 = .ok (.if_icmp .ne 7, 3) := by decide +kernel
theorem dX4_shift_19 : decode cX4_shift 19 = .ok (.ldc2_w 109, 3) := by decide +kernel
theorem dX4_shift_22 : decode cX4_shift 22 = .ok (.lreturn, 1) := by decide +kernel
theorem dX4_shift_23 : decode cX4_shift 23 = .ok (.iload_n 3, 1) := by decide +kernel
theorem dX4_shift_24 : decode cX4_shift 24 = .ok (.iload 4, 2) := by decide +kernel
theorem dX4_shift_26 : decode cX4_shift 26 = .ok (.iload 5, 2) := by decide +kernel
theorem dX4_shift_28 : decode cX4_shift 28 = .ok (.invokestatic 140, 3) := by decide +kernel
theorem dX4_shift_31 : decode cX4_shift 31 = .ok (.ifCond .eq 11, 3) := by decide +kernel
theorem dX4_shift_34 : decode cX4_shift 34 = .ok (.iload 6, 2) := by decide +kernel
theorem dX4_shift_36 : decode cX4_shift 36 = .ok (.invokestatic 111, 3) := by decide +kernel
theorem dX4_shift_39 : decode cX4_shift 39 = .ok (.ifCond .ne 7, 3) := by decide +kernel
theorem dX4_shift_42 : decode cX4_shift 42 = .ok (.ldc2_w 114, 3) := by decide +kernel
theorem dX4_shift_45 : decode cX4_shift 45 = .ok (.lreturn, 1) := by decide +kernel
theorem dX4_shift_46 : decode cX4_shift 46 = .ok (.aload_n 0, 1) := by decide +kernel
theorem dX4_shift_47 : decode cX4_shift 47 = .ok (.getfield 10, 3) := by decide +kernel
theorem dX4_shift_50 : decode cX4_shift 50 = .ok (.iload_n 3, 1) := by decide +kernel
theorem dX4_shift_51 : decode cX4_shift 51 = .ok (.iload 4, 2) := by decide +kernel
