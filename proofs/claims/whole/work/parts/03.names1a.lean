theorem dX0_init_0 : decode cX0_init 0 = .ok (.aload_n 0, 1) := by decide +kernel
theorem dX0_init_1 : decode cX0_init 1 = .ok (.invokespecial 3, 3) := by decide +kernel
theorem dX0_init_4 : decode cX0_init 4 = .ok (.aload_n 0, 1) := by decide +kernel
theorem dX0_init_5 : decode cX0_init 5 = .ok (.iconst 0, 1) := by decide +kernel
theorem dX0_init_6 : decode cX0_init 6 = .ok (.putfield 9, 3) := by decide +kernel
theorem dX0_init_9 : decode cX0_init 9 = .ok (.aload_n 0, 1) := by decide +kernel
theorem dX0_init_10 : decode cX0_init 10 = .ok (.iconst 1, 1) := by decide +kernel
theorem dX0_init_11 : decode cX0_init 11 = .ok (.putfield 15, 3) := by decide +kernel
theorem dX0_init_14 : decode cX0_init 14 = .ok (.aload_n 0, 1) := by decide +kernel
theorem dX0_init_15 : decode cX0_init 15 = .ok (.iconst 0, 1) := by decide +kernel
theorem dX0_init_16 : decode cX0_init 16 = .ok (.putfield 18, 3) := by decide +kernel
theorem dX0_init_19 : decode cX0_init 19 = .ok (.aload_n 0, 1) := by decide +kernel
theorem dX0_init_20 : decode cX0_init 20 = .ok (.iconst 0, 1) := by decide +kernel
theorem dX0_init_21 : decode cX0_init 21 = .ok (.putfield 21, 3) := by decide +kernel
theorem dX0_init_24 : decode cX0_init 24 = .ok (.aload_n 0, 1) := by decide +kernel
theorem dX0_init_25 : decode cX0_init 25 = .ok (.bipush 100, 2) := by decide +kernel
theorem dX0_init_27 : decode cX0_init 27 = .ok (.newarray .int, 2) := by decide +kernel
theorem dX0_init_29 : decode cX0_init 29 = .ok (.putfield 24, 3) := by decide +kernel
theorem dX0_init_32 : decode cX0_init 32 = .ok (.aload_n 0, 1) := by decide +kernel
theorem dX0_init_33 : decode cX0_init 33 = .ok (.bipush 100, 2) := by decide +kernel
theorem dX0_init_35 : decode cX0_init 35 = .ok (.newarray .boolean, 2) := by decide +kernel
theorem dX0_init_37 : decode cX0_init 37 = .ok (.putfield 28, 3) := by decide +kernel
theorem dX0_init_40 : decode cX0_init 40 = .ok (.aload_n 0, 1) := by decide +kernel
theorem dX0_init_41 : decode cX0_init 41 = .ok (.bipush 100, 2) := by decide +kernel
theorem dX0_init_43 : decode cX0_init 43 = .ok (.newarray .boolean, 2) := by decide +kernel
theorem dX0_init_45 : decode cX0_init 45 = .ok (.putfield 32, 3) := by decide +kernel
theorem dX0_init_48 : decode cX0_init 48 = .ok (.return_, 1) := by decide +kernel
set_option maxRecDepth 20000 in
theorem ggX0_begin_X0_beginOf : GoodIn wsX0_begin wsX0_beginOf := goodIn_r _ [8, 1, 2, 9, 10, 11, 12, 13, 14, 15] (by decide +kernel) (by decide +kernel)
set_option maxRecDepth 20000 in
theorem gX0_begin_X0_beginOf : GoodIn wsX0_begin (wsV RX0 35 RX0 yX0_beginOf wsX0_beginOf) := goodIn_app (goodIn_of _ (by decide +kernel)) ggX0_begin_X0_beginOf
theorem dX0_begin_0 : decode cX0_begin 0 = .ok (.aload_n 0, 1) := by decide +kernel
theorem dX0_begin_1 : decode cX0_begin 1 = .ok (.iload_n 1, 1) := by decide +kernel
theorem dX0_begin_2 : decode cX0_begin 2 = .ok (.putfield 9, 3) := by decide +kernel
theorem dX0_begin_5 : decode cX0_begin 5 = .ok (.aload_n 0, 1) := by decide +kernel
theorem dX0_begin_6 : decode cX0_begin 6 = .ok (.iload_n 2, 1) := by decide +kernel
theorem dX0_begin_7 : decode cX0_begin 7 = .ok (.putfield 15, 3) := by decide +kernel
theorem dX0_begin_10 : decode cX0_begin 10 = .ok (.aload_n 0, 1) := by decide +kernel
theorem dX0_begin_11 : decode cX0_begin 11 = .ok (.iconst 0, 1) := by decide +kernel
theorem dX0_begin_12 : decode cX0_begin 12 = .ok (.putfield 18, 3) := by decide +kernel
theorem dX0_begin_15 : decode cX0_begin 15 = .ok (.iconst 0, 1) := by decide +kernel
theorem dX0_begin_16 : decode cX0_begin 16 = .ok (.istore_n 3, 1) := by decide +kernel
theorem dX0_begin_17 : decode cX0_begin 17 = .ok (.iload_n 3, 1) := by decide +kernel
theorem dX0_begin_18 : decode cX0_begin 18 = .ok (.bipush 100, 2) := by decide +kernel
theorem dX0_begin_20 : decode cX0_begin 20 = .ok (.if_icmp .ge 30, 3) := by decide +kernel
theorem dX0_begin_23 : decode cX0_begin 23 = .ok (.aload_n 0, 1) := by decide +kernel
theorem dX0_begin_24 : decode cX0_begin 24 = .ok (.iload_n 3, 1) := by decide +kernel
theorem dX0_begin_25 : decode cX0_begin 25 = .ok (.invokevirtual 35, 3) := by decide +kernel
theorem dX0_begin_28 : decode cX0_begin 28 = .ok (.sipush 1000, 3) := by decide +kernel
theorem dX0_begin_31 : decode cX0_begin 31 = .ok (.if_icmp .ge 19, 3) := by decide +kernel
theorem dX0_begin_34 : decode cX0_begin 34 = .ok (.aload_n 0, 1) := by decide +kernel
theorem dX0_begin_35 : decode cX0_begin 35 = .ok (.dup, 1) := by decide +kernel
theorem dX0_begin_36 : decode cX0_begin 36 = .ok (.getfield 18, 3) := by decide +kernel
theorem dX0_begin_39 : decode cX0_begin 39 = .ok (.iconst 1, 1) := by decide +kernel
theorem dX0_begin_40 : decode cX0_begin 40 = .ok (.iadd, 1) := by decide +kernel
theorem dX0_begin_41 : decode cX0_begin 41 = .ok (.putfield 18, 3) := by decide +kernel
theorem dX0_begin_44 : decode cX0_begin 44 = .ok (.iinc 3 1, 3) := by decide +kernel
theorem dX0_begin_47 : decode cX0_begin 47 = .ok (.goto (-30), 3) := by decide +kernel
theorem dX0_begin_50 : decode cX0_begin 50 = .ok (.return_, 1) := by decide +kernel
theorem dX0_beginOf_0 : decode cX0_beginOf 0 = .ok (.aload_n 0, 1) := by decide +kernel
theorem dX0_beginOf_1 : decode cX0_beginOf 1 = .ok (.getfield 9, 3) := by decide +kernel
theorem dX0_beginOf_4 : decode cX0_beginOf 4 = .ok (.iload_n 1, 1) := by decide +kernel
theorem dX0_beginOf_5 : decode cX0_beginOf 5 = .ok (.aload_n 0, 1) := by decide +kernel
theorem dX0_beginOf_6 : decode cX0_beginOf 6 = .ok (.getfield 15, 3) := by decide +kernel
theorem dX0_beginOf_9 : decode cX0_beginOf 9 = .ok (.imul, 1) := by decide +kernel
theorem dX0_beginOf_10 : decode cX0_beginOf 10 = .ok (.iadd, 1) := by decide +kernel
theorem dX0_beginOf_11 : decode cX0_beginOf 11 = .ok (.ireturn, 1) := by decide +kernel
set_option maxRecDepth 20000 in
theorem ggX0_measure_X2_between : GoodIn wsX0_measure wsX2_between := goodIn_r _ [13, 14, 15, 55, 56, 57, 58] (by decide +kernel) (by decide +kernel)
set_option maxRecDepth 20000 in
theorem gX0_measure_X2_between : GoodIn wsX0_measure (wsV RX0 39 RX2 yX2_between wsX2_between) := goodIn_app (goodIn_of _ (by decide +kernel)) ggX0_measure_X2_between
set_option maxRecDepth 20000 in
theorem ggX0_measure_X0_beginOf : GoodIn wsX0_measure wsX0_beginOf := goodIn_r _ [20, 1, 21, 48, 49, 50, 51, 52, 53, 54] (by decide +kernel) (by decide +kernel)
set_option maxRecDepth 20000 in
theorem gX0_measure_X0_beginOf : GoodIn wsX0_measure (wsV RX0 35 RX0 yX0_beginOf wsX0_beginOf) := goodIn_app (goodIn_of _ (by decide +kernel)) ggX0_measure_X0_beginOf
set_option maxRecDepth 20000 in
theorem ggX0_measure_J13_bitCount_95d88 : GoodIn wsX0_measure wsJ13_bitCount_95d88 := goodIn_r _ [25, 26, 27, 28] (by decide +kernel) (by decide +kernel)
set_option maxRecDepth 20000 in
theorem gX0_measure_J13_bitCount_95d88 : GoodIn wsX0_measure (va_wsS RX0 51 yJ13_bitCount_95d88 wsJ13_bitCount_95d88) := goodIn_app (goodIn_of _ (by decide +kernel)) ggX0_measure_J13_bitCount_95d88
set_option maxRecDepth 20000 in
theorem ggX0_measure_X2_driftAbove : GoodIn wsX0_measure wsX2_driftAbove := goodIn_r _ [32, 33, 34, 5, 35, 36, 23, 24, 25, 26, 27, 28, 37, 38, 39, 12, 40, 41, 42, 43, 44, 55, 56, 57, 58] (by decide +kernel) (by decide +kernel)
set_option maxRecDepth 20000 in
theorem gX0_measure_X2_driftAbove : GoodIn wsX0_measure (wsV RX0 57 RX2 yX2_driftAbove wsX2_driftAbove) := goodIn_app (goodIn_of _ (by decide +kernel)) ggX0_measure_X2_driftAbove
set_option maxRecDepth 20000 in
theorem ggX0_measure_X4_driftBelow : GoodIn wsX0_measure wsX4_driftBelow := goodIn_r _ [46, 47, 23, 24, 25, 26, 27, 28] (by decide +kernel) (by decide +kernel)
set_option maxRecDepth 20000 in
theorem gX0_measure_X4_driftBelow_n61 : GoodIn wsX0_measure (wsX4_driftBelow) := ggX0_measure_X4_driftBelow
theorem dX0_measure_0 : decode cX0_measure 0 = .ok (.aload_n 1, 1) := by decide +kernel
theorem dX0_measure_1 : decode cX0_measure 1 = .ok (.iconst 0, 1) := by decide +kernel
theorem dX0_measure_2 : decode cX0_measure 2 = .ok (.aload_n 0, 1) := by decide +kernel
theorem dX0_measure_3 : decode cX0_measure 3 = .ok (.getfield 9, 3) := by decide +kernel
theorem dX0_measure_6 : decode cX0_measure 6 = .ok (.invokevirtual 39, 3) := by decide +kernel
theorem dX0_measure_9 : decode cX0_measure 9 = .ok (.lstore 4, 2) := by decide +kernel
theorem dX0_measure_11 : decode cX0_measure 11 = .ok (.iconst 0, 1) := by decide +kernel
theorem dX0_measure_12 : decode cX0_measure 12 = .ok (.istore 6, 2) := by decide +kernel
theorem dX0_measure_14 : decode cX0_measure 14 = .ok (.iload 6, 2) := by decide +kernel
theorem dX0_measure_16 : decode cX0_measure 16 = .ok (.aload_n 0, 1) := by decide +kernel
theorem dX0_measure_17 : decode cX0_measure 17 = .ok (.getfield 18, 3) := by decide +kernel
theorem dX0_measure_20 : decode cX0_measure 20 = .ok (.if_icmp .ge 91, 3) := by decide +kernel
theorem dX0_measure_23 : decode cX0_measure 23 = .ok (.aload_n 1, 1) := by decide +kernel
theorem dX0_measure_24 : decode cX0_measure 24 = .ok (.aload_n 0, 1) := by decide +kernel
theorem dX0_measure_25 : decode cX0_measure 25 = .ok (.iload 6, 2) := by decide +kernel
theorem dX0_measure_27 : decode cX0_measure 27 = .ok (.invokevirtual 35, 3) := by decide +kernel
theorem dX0_measure_30 : decode cX0_measure 30 = .ok (.aload_n 0, 1) := by decide +kernel
theorem dX0_measure_31 : decode cX0_measure 31 = .ok (.iload 6, 2) := by decide +kernel
theorem dX0_measure_33 : decode cX0_measure 33 = .ok (.iconst 1, 1) := by decide +kernel
theorem dX0_measure_34 : decode cX0_measure 34 = .ok (.iadd, 1) := by decide +kernel
theorem dX0_measure_35 : decode cX0_measure 35 = .ok (.invokevirtual 35, 3) := by decide +kernel
theorem dX0_measure_38 : decode cX0_measure 38 = .ok (.sipush 1000, 3) := by decide +kernel
theorem dX0_measure_41 : decode cX0_measure 41 = .ok (.invokestatic 45, 3) := by decide +kernel
theorem dX0_measure_44 : decode cX0_measure 44 = .ok (.invokevirtual 39, 3) := by decide +kernel
theorem dX0_measure_47 : decode cX0_measure 47 = .ok (.lstore 7, 2) := by decide +kernel
theorem dX0_measure_49 : decode cX0_measure 49 = .ok (.aload_n 0, 1) := by decide +kernel
theorem dX0_measure_50 : decode cX0_measure 50 = .ok (.getfield 24, 3) := by decide +kernel
theorem dX0_measure_53 : decode cX0_measure 53 = .ok (.iload 6, 2) := by decide +kernel
theorem dX0_measure_55 : decode cX0_measure 55 = .ok (.lload 7, 2) := by decide +kernel
theorem dX0_measure_57 : decode cX0_measure 57 = .ok (.invokestatic 51, 3) := by decide +kernel
theorem dX0_measure_60 : decode cX0_measure 60 = .ok (.iastore, 1) := by decide +kernel
theorem dX0_measure_61 : decode cX0_measure 61 = .ok (.aload_n 0, 1) := by decide +kernel
theorem dX0_measure_62 : decode cX0_measure 62 = .ok (.getfield 28, 3) := by decide +kernel
theorem dX0_measure_65 : decode cX0_measure 65 = .ok (.iload 6, 2) := by decide +kernel
theorem dX0_measure_67 : decode cX0_measure 67 = .ok (.lload 7, 2) := by decide +kernel
theorem dX0_measure_69 : decode cX0_measure 69 = .ok (.lconst 0, 1) := by decide +kernel
theorem dX0_measure_70 : decode cX0_measure 70 = .ok (.lcmp, 1) := by decide +kernel
theorem dX0_measure_71 : decode cX0_measure 71 = .ok (.ifCond .eq 32, 3) := by decide +kernel
theorem dX0_measure_74 : decode cX0_measure 74 = .ok (.sipush 1000, 3) := by decide +kernel
theorem dX0_measure_77 : decode cX0_measure 77 = .ok (.aload_n 1, 1) := by decide +kernel
theorem dX0_measure_78 : decode cX0_measure 78 = .ok (.iload_n 2, 1) := by decide +kernel
theorem dX0_measure_79 : decode cX0_measure 79 = .ok (.lload 4, 2) := by decide +kernel
theorem dX0_measure_81 : decode cX0_measure 81 = .ok (.lload 7, 2) := by decide +kernel
theorem dX0_measure_83 : decode cX0_measure 83 = .ok (.invokevirtual 57, 3) := by decide +kernel
theorem dX0_measure_86 : decode cX0_measure 86 = .ok (.imul, 1) := by decide +kernel
theorem dX0_measure_87 : decode cX0_measure 87 = .ok (.iload_n 3, 1) := by decide +kernel
theorem dX0_measure_88 : decode cX0_measure 88 = .ok (.lload 4, 2) := by decide +kernel
theorem dX0_measure_90 : decode cX0_measure 90 = .ok (.lload 7, 2) := by decide +kernel
theorem dX0_measure_92 : decode cX0_measure 92 = .ok (.invokestatic 61, 3) := by decide +kernel
theorem dX0_measure_95 : decode cX0_measure 95 = .ok (.imul, 1) := by decide +kernel
theorem dX0_measure_96 : decode cX0_measure 96 = .ok (.if_icmp .lt 7, 3) := by decide +kernel
theorem dX0_measure_99 : decode cX0_measure 99 = .ok (.iconst 1, 1) := by decide +kernel
theorem dX0_measure_100 : decode cX0_measure 100 = .ok (.goto 4, 3) := by decide +kernel
theorem dX0_measure_103 : decode cX0_measure 103 = .ok (.iconst 0, 1) := by decide +kernel
theorem dX0_measure_104 : decode cX0_measure 104 = .ok (.bastore, 1) := by decide +kernel
theorem dX0_measure_105 : decode cX0_measure 105 = .ok (.iinc 6 1, 3) := by decide +kernel
theorem dX0_measure_108 : decode cX0_measure 108 = .ok (.goto (-94), 3) := by decide +kernel
theorem dX0_measure_111 : decode cX0_measure 111 = .ok (.return_, 1) := by decide +kernel
theorem dX0_raise_0 : decode cX0_raise 0 = .ok (.iconst 0, 1) := by decide +kernel
theorem dX0_raise_1 : decode cX0_raise 1 = .ok (.istore_n 2, 1) := by decide +kernel
theorem dX0_raise_2 : decode cX0_raise 2 = .ok (.iconst 0, 1) := by decide +kernel
theorem dX0_raise_3 : decode cX0_raise 3 = .ok (.istore_n 3, 1) := by decide +kernel
theorem dX0_raise_4 : decode cX0_raise 4 = .ok (.iconst 0, 1) := by decide +kernel
theorem dX0_raise_5 : decode cX0_raise 5 = .ok (.istore 4, 2) := by decide +kernel
theorem dX0_raise_7 : decode cX0_raise 7 = .ok (.aload_n 0, 1) := by decide +kernel
theorem dX0_raise_8 : decode cX0_raise 8 = .ok (.iconst 0, 1) := by decide +kernel
theorem dX0_raise_9 : decode cX0_raise 9 = .ok (.putfield 21, 3) := by decide +kernel
theorem dX0_raise_12 : decode cX0_raise 12 = .ok (.iconst 0, 1) := by decide +kernel
theorem dX0_raise_13 : decode cX0_raise 13 = .ok (.istore 5, 2) := by decide +kernel
theorem dX0_raise_15 : decode cX0_raise 15 = .ok (.iload 5, 2) := by decide +kernel
theorem dX0_raise_17 : decode cX0_raise 17 = .ok (.aload_n 0, 1) := by decide +kernel
theorem dX0_raise_18 : decode cX0_raise 18 = .ok (.getfield 18, 3) := by decide +kernel
theorem dX0_raise_21 : decode cX0_raise 21 = .ok (.if_icmp .ge 94, 3) := by decide +kernel
theorem dX0_raise_24 : decode cX0_raise 24 = .ok (.aload_n 0, 1) := by decide +kernel
theorem dX0_raise_25 : decode cX0_raise 25 = .ok (.getfield 28, 3) := by decide +kernel
theorem dX0_raise_28 : decode cX0_raise 28 = .ok (.iload 5, 2) := by decide +kernel
theorem dX0_raise_30 : decode cX0_raise 30 = .ok (.baload, 1) := by decide +kernel
theorem dX0_raise_31 : decode cX0_raise 31 = .ok (.ifCond .eq 28, 3) := by decide +kernel
theorem dX0_raise_34 : decode cX0_raise 34 = .ok (.aload_n 0, 1) := by decide +kernel
theorem dX0_raise_35 : decode cX0_raise 35 = .ok (.dup, 1) := by decide +kernel
theorem dX0_raise_36 : decode cX0_raise 36 = .ok (.getfield 21, 3) := by decide +kernel
theorem dX0_raise_39 : decode cX0_raise 39 = .ok (.iload_n 2, 1) := by decide +kernel
theorem dX0_raise_40 : decode cX0_raise 40 = .ok (.ifCond .eq 7, 3) := by decide +kernel
theorem dX0_raise_43 : decode cX0_raise 43 = .ok (.iconst 0, 1) := by decide +kernel
theorem dX0_raise_44 : decode cX0_raise 44 = .ok (.goto 4, 3) := by decide +kernel
theorem dX0_raise_47 : decode cX0_raise 47 = .ok (.iconst 1, 1) := by decide +kernel
theorem dX0_raise_48 : decode cX0_raise 48 = .ok (.iadd, 1) := by decide +kernel
theorem dX0_raise_49 : decode cX0_raise 49 = .ok (.putfield 21, 3) := by decide +kernel
theorem dX0_raise_52 : decode cX0_raise 52 = .ok (.iconst 1, 1) := by decide +kernel
theorem dX0_raise_53 : decode cX0_raise 53 = .ok (.istore_n 2, 1) := by decide +kernel
theorem dX0_raise_54 : decode cX0_raise 54 = .ok (.iconst 0, 1) := by decide +kernel
theorem dX0_raise_55 : decode cX0_raise 55 = .ok (.istore_n 3, 1) := by decide +kernel
theorem dX0_raise_56 : decode cX0_raise 56 = .ok (.goto 31, 3) := by decide +kernel
theorem dX0_raise_59 : decode cX0_raise 59 = .ok (.aload_n 0, 1) := by decide +kernel
theorem dX0_raise_60 : decode cX0_raise 60 = .ok (.getfield 24, 3) := by decide +kernel
theorem dX0_raise_63 : decode cX0_raise 63 = .ok (.iload 5, 2) := by decide +kernel
theorem dX0_raise_65 : decode cX0_raise 65 = .ok (.iaload, 1) := by decide +kernel
theorem dX0_raise_66 : decode cX0_raise 66 = .ok (.ifCond .le 21, 3) := by decide +kernel
theorem dX0_raise_69 : decode cX0_raise 69 = .ok (.iinc 3 1, 3) := by decide +kernel
theorem dX0_raise_72 : decode cX0_raise 72 = .ok (.iload_n 2, 1) := by decide +kernel
theorem dX0_raise_73 : decode cX0_raise 73 = .ok (.ifCond .eq 12, 3) := by decide +kernel
theorem dX0_raise_76 : decode cX0_raise 76 = .ok (.iload_n 3, 1) := by decide +kernel
theorem dX0_raise_77 : decode cX0_raise 77 = .ok (.iload_n 1, 1) := by decide +kernel
theorem dX0_raise_78 : decode cX0_raise 78 = .ok (.if_icmp .ge 7, 3) := by decide +kernel
theorem dX0_raise_81 : decode cX0_raise 81 = .ok (.iconst 1, 1) := by decide +kernel
theorem dX0_raise_82 : decode cX0_raise 82 = .ok (.goto 4, 3) := by decide +kernel
theorem dX0_raise_85 : decode cX0_raise 85 = .ok (.iconst 0, 1) := by decide +kernel
theorem dX0_raise_86 : decode cX0_raise 86 = .ok (.istore_n 2, 1) := by decide +kernel
theorem dX0_raise_87 : decode cX0_raise 87 = .ok (.aload_n 0, 1) := by decide +kernel
theorem dX0_raise_88 : decode cX0_raise 88 = .ok (.getfield 32, 3) := by decide +kernel
theorem dX0_raise_91 : decode cX0_raise 91 = .ok (.iload 5, 2) := by decide +kernel
theorem dX0_raise_93 : decode cX0_raise 93 = .ok (.iload_n 2, 1) := by decide +kernel
theorem dX0_raise_94 : decode cX0_raise 94 = .ok (.bastore, 1) := by decide +kernel
theorem dX0_raise_95 : decode cX0_raise 95 = .ok (.iload 4, 2) := by decide +kernel
theorem dX0_raise_97 : decode cX0_raise 97 = .ok (.iload_n 2, 1) := by decide +kernel
theorem dX0_raise_98 : decode cX0_raise 98 = .ok (.ifCond .eq 7, 3) := by decide +kernel
theorem dX0_raise_101 : decode cX0_raise 101 = .ok (.iconst 1, 1) := by decide +kernel
theorem dX0_raise_102 : decode cX0_raise 102 = .ok (.goto 4, 3) := by decide +kernel
theorem dX0_raise_105 : decode cX0_raise 105 = .ok (.iconst 0, 1) := by decide +kernel
theorem dX0_raise_106 : decode cX0_raise 106 = .ok (.iadd, 1) := by decide +kernel
theorem dX0_raise_107 : decode cX0_raise 107 = .ok (.istore 4, 2) := by decide +kernel
theorem dX0_raise_109 : decode cX0_raise 109 = .ok (.iinc 5 1, 3) := by decide +kernel
theorem dX0_raise_112 : decode cX0_raise 112 = .ok (.goto (-97), 3) := by decide +kernel
theorem dX0_raise_115 : decode cX0_raise 115 = .ok (.iload 4, 2) := by decide +kernel
theorem dX0_raise_117 : decode cX0_raise 117 = .ok (.ireturn, 1) := by decide +kernel
theorem dX1_init_0 : decode cX1_init 0 = .ok (.aload_n 0, 1) := by decide +kernel
theorem dX1_init_1 : decode cX1_init 1 = .ok (.invokespecial 5, 3) := by decide +kernel
theorem dX1_init_4 : decode cX1_init 4 = .ok (.aload_n 0, 1) := by decide +kernel
theorem dX1_init_5 : decode cX1_init 5 = .ok (.iconst 0, 1) := by decide +kernel
theorem dX1_init_6 : decode cX1_init 6 = .ok (.putfield 11, 3) := by decide +kernel
theorem dX1_init_9 : decode cX1_init 9 = .ok (.aload_n 0, 1) := by decide +kernel
theorem dX1_init_10 : decode cX1_init 10 = .ok (.iconst 0, 1) := by decide +kernel
theorem dX1_init_11 : decode cX1_init 11 = .ok (.putfield 15, 3) := by decide +kernel
theorem dX1_init_14 : decode cX1_init 14 = .ok (.aload_n 0, 1) := by decide +kernel
theorem dX1_init_15 : decode cX1_init 15 = .ok (.bipush 10, 2) := by decide +kernel
theorem dX1_init_17 : decode cX1_init 17 = .ok (.newarray .int, 2) := by decide +kernel
theorem dX1_init_19 : decode cX1_init 19 = .ok (.putfield 18, 3) := by decide +kernel
theorem dX1_init_22 : decode cX1_init 22 = .ok (.aload_n 0, 1) := by decide +kernel
theorem dX1_init_23 : decode cX1_init 23 = .ok (.bipush 10, 2) := by decide +kernel
theorem dX1_init_25 : decode cX1_init 25 = .ok (.newarray .int, 2) := by decide +kernel
theorem dX1_init_27 : decode cX1_init 27 = .ok (.putfield 22, 3) := by decide +kernel
theorem dX1_init_30 : decode cX1_init 30 = .ok (.aload_n 0, 1) := by decide +kernel
theorem dX1_init_31 : decode cX1_init 31 = .ok (.sipush 4221, 3) := by decide +kernel
theorem dX1_init_34 : decode cX1_init 34 = .ok (.newarray .int, 2) := by decide +kernel
theorem dX1_init_36 : decode cX1_init 36 = .ok (.putfield 25, 3) := by decide +kernel
theorem dX1_init_39 : decode cX1_init 39 = .ok (.return_, 1) := by decide +kernel
set_option maxRecDepth 20000 in
theorem ggX1_take_X2_withSort : GoodIn wsX1_take wsX2_withSort := goodIn_r _ [9, 10, 11, 12, 13, 26, 27, 28, 29] (by decide +kernel) (by decide +kernel)
set_option maxRecDepth 20000 in
theorem gX1_take_X2_withSort : GoodIn wsX1_take (wsV RX1 28 RX2 yX2_withSort wsX2_withSort) := goodIn_app (goodIn_of _ (by decide +kernel)) ggX1_take_X2_withSort
set_option maxRecDepth 20000 in
theorem ggX1_take_J13_bitCount_95d88 : GoodIn wsX1_take wsJ13_bitCount_95d88 := goodIn_r _ [17, 18, 19, 20] (by decide +kernel) (by decide +kernel)
set_option maxRecDepth 20000 in
theorem gX1_take_J13_bitCount_95d88 : GoodIn wsX1_take (va_wsS RX1 34 yJ13_bitCount_95d88 wsJ13_bitCount_95d88) := goodIn_app (goodIn_of _ (by decide +kernel)) ggX1_take_J13_bitCount_95d88
theorem dX1_take_0 : decode cX1_take 0 = .ok (.aload_n 0, 1) := by decide +kernel
theorem dX1_take_1 : decode cX1_take 1 = .ok (.iconst 0, 1) := by decide +kernel
theorem dX1_take_2 : decode cX1_take 2 = .ok (.putfield 11, 3) := by decide +kernel
theorem dX1_take_5 : decode cX1_take 5 = .ok (.aload_n 0, 1) := by decide +kernel
theorem dX1_take_6 : decode cX1_take 6 = .ok (.iconst 0, 1) := by decide +kernel
theorem dX1_take_7 : decode cX1_take 7 = .ok (.putfield 15, 3) := by decide +kernel
theorem dX1_take_10 : decode cX1_take 10 = .ok (.iconst 0, 1) := by decide +kernel
theorem dX1_take_11 : decode cX1_take 11 = .ok (.istore 7, 2) := by decide +kernel
theorem dX1_take_13 : decode cX1_take 13 = .ok (.iload 7, 2) := by decide +kernel
theorem dX1_take_15 : decode cX1_take 15 = .ok (.bipush 10, 2) := by decide +kernel
theorem dX1_take_17 : decode cX1_take 17 = .ok (.if_icmp .ge 80, 3) := by decide +kernel
theorem dX1_take_20 : decode cX1_take 20 = .ok (.aload_n 0, 1) := by decide +kernel
theorem dX1_take_21 : decode cX1_take 21 = .ok (.getfield 18, 3) := by decide +kernel
theorem dX1_take_24 : decode cX1_take 24 = .ok (.iload 7, 2) := by decide +kernel
theorem dX1_take_26 : decode cX1_take 26 = .ok (.aload_n 1, 1) := by decide +kernel
theorem dX1_take_27 : decode cX1_take 27 = .ok (.iload_n 2, 1) := by decide +kernel
theorem dX1_take_28 : decode cX1_take 28 = .ok (.iload 7, 2) := by decide +kernel
theorem dX1_take_30 : decode cX1_take 30 = .ok (.invokevirtual 28, 3) := by decide +kernel
theorem dX1_take_33 : decode cX1_take 33 = .ok (.lload_n 3, 1) := by decide +kernel
theorem dX1_take_34 : decode cX1_take 34 = .ok (.land, 1) := by decide +kernel
theorem dX1_take_35 : decode cX1_take 35 = .ok (.invokestatic 34, 3) := by decide +kernel
theorem dX1_take_38 : decode cX1_take 38 = .ok (.iastore, 1) := by decide +kernel
theorem dX1_take_39 : decode cX1_take 39 = .ok (.aload_n 0, 1) := by decide +kernel
theorem dX1_take_40 : decode cX1_take 40 = .ok (.getfield 22, 3) := by decide +kernel
theorem dX1_take_43 : decode cX1_take 43 = .ok (.iload 7, 2) := by decide +kernel
theorem dX1_take_45 : decode cX1_take 45 = .ok (.aload_n 1, 1) := by decide +kernel
theorem dX1_take_46 : decode cX1_take 46 = .ok (.iload_n 2, 1) := by decide +kernel
theorem dX1_take_47 : decode cX1_take 47 = .ok (.iload 7, 2) := by decide +kernel
theorem dX1_take_49 : decode cX1_take 49 = .ok (.invokevirtual 28, 3) := by decide +kernel
theorem dX1_take_52 : decode cX1_take 52 = .ok (.lload 5, 2) := by decide +kernel
theorem dX1_take_54 : decode cX1_take 54 = .ok (.land, 1) := by decide +kernel
theorem dX1_take_55 : decode cX1_take 55 = .ok (.invokestatic 34, 3) := by decide +kernel
theorem dX1_take_58 : decode cX1_take 58 = .ok (.iastore, 1) := by decide +kernel
theorem dX1_take_59 : decode cX1_take 59 = .ok (.aload_n 0, 1) := by decide +kernel
theorem dX1_take_60 : decode cX1_take 60 = .ok (.dup, 1) := by decide +kernel
theorem dX1_take_61 : decode cX1_take 61 = .ok (.getfield 11, 3) := by decide +kernel
theorem dX1_take_64 : decode cX1_take 64 = .ok (.aload_n 0, 1) := by decide +kernel
theorem dX1_take_65 : decode cX1_take 65 = .ok (.getfield 18, 3) := by decide +kernel
theorem dX1_take_68 : decode cX1_take 68 = .ok (.iload 7, 2) := by decide +kernel
theorem dX1_take_70 : decode cX1_take 70 = .ok (.iaload, 1) := by decide +kernel
theorem dX1_take_71 : decode cX1_take 71 = .ok (.iadd, 1) := by decide +kernel
theorem dX1_take_72 : decode cX1_take 72 = .ok (.putfield 11, 3) := by decide +kernel
theorem dX1_take_75 : decode cX1_take 75 = .ok (.aload_n 0, 1) := by decide +kernel
theorem dX1_take_76 : decode cX1_take 76 = .ok (.dup, 1) := by decide +kernel
theorem dX1_take_77 : decode cX1_take 77 = .ok (.getfield 15, 3) := by decide +kernel
theorem dX1_take_80 : decode cX1_take 80 = .ok (.aload_n 0, 1) := by decide +kernel
theorem dX1_take_81 : decode cX1_take 81 = .ok (.getfield 22, 3) := by decide +kernel
theorem dX1_take_84 : decode cX1_take 84 = .ok (.iload 7, 2) := by decide +kernel
theorem dX1_take_86 : decode cX1_take 86 = .ok (.iaload, 1) := by decide +kernel
theorem dX1_take_87 : decode cX1_take 87 = .ok (.iadd, 1) := by decide +kernel
theorem dX1_take_88 : decode cX1_take 88 = .ok (.putfield 15, 3) := by decide +kernel
theorem dX1_take_91 : decode cX1_take 91 = .ok (.iinc 7 1, 3) := by decide +kernel
theorem dX1_take_94 : decode cX1_take 94 = .ok (.goto (-81), 3) := by decide +kernel
theorem dX1_take_97 : decode cX1_take 97 = .ok (.return_, 1) := by decide +kernel
theorem dX1_risen_0 : decode cX1_risen 0 = .ok (.iconst 0, 1) := by decide +kernel
theorem dX1_risen_1 : decode cX1_risen 1 = .ok (.istore_n 1, 1) := by decide +kernel
theorem dX1_risen_2 : decode cX1_risen 2 = .ok (.iconst 0, 1) := by decide +kernel
theorem dX1_risen_3 : decode cX1_risen 3 = .ok (.istore_n 2, 1) := by decide +kernel
theorem dX1_risen_4 : decode cX1_risen 4 = .ok (.iconst 0, 1) := by decide +kernel
theorem dX1_risen_5 : decode cX1_risen 5 = .ok (.istore_n 3, 1) := by decide +kernel
theorem dX1_risen_6 : decode cX1_risen 6 = .ok (.iload_n 3, 1) := by decide +kernel
theorem dX1_risen_7 : decode cX1_risen 7 = .ok (.bipush 10, 2) := by decide +kernel
theorem dX1_risen_9 : decode cX1_risen 9 = .ok (.if_icmp .ge 38, 3) := by decide +kernel
theorem dX1_risen_12 : decode cX1_risen 12 = .ok (.iload_n 2, 1) := by decide +kernel
theorem dX1_risen_13 : decode cX1_risen 13 = .ok (.aload_n 0, 1) := by decide +kernel
theorem dX1_risen_14 : decode cX1_risen 14 = .ok (.getfield 22, 3) := by decide +kernel
theorem dX1_risen_17 : decode cX1_risen 17 = .ok (.iload_n 3, 1) := by decide +kernel
theorem dX1_risen_18 : decode cX1_risen 18 = .ok (.iaload, 1) := by decide +kernel
theorem dX1_risen_19 : decode cX1_risen 19 = .ok (.iconst 2, 1) := by decide +kernel
theorem dX1_risen_20 : decode cX1_risen 20 = .ok (.iload_n 1, 1) := by decide +kernel
theorem dX1_risen_21 : decode cX1_risen 21 = .ok (.imul, 1) := by decide +kernel
theorem dX1_risen_22 : decode cX1_risen 22 = .ok (.aload_n 0, 1) := by decide +kernel
theorem dX1_risen_23 : decode cX1_risen 23 = .ok (.getfield 18, 3) := by decide +kernel
theorem dX1_risen_26 : decode cX1_risen 26 = .ok (.iload_n 3, 1) := by decide +kernel
theorem dX1_risen_27 : decode cX1_risen 27 = .ok (.iaload, 1) := by decide +kernel
theorem dX1_risen_28 : decode cX1_risen 28 = .ok (.iadd, 1) := by decide +kernel
theorem dX1_risen_29 : decode cX1_risen 29 = .ok (.imul, 1) := by decide +kernel
theorem dX1_risen_30 : decode cX1_risen 30 = .ok (.iadd, 1) := by decide +kernel
theorem dX1_risen_31 : decode cX1_risen 31 = .ok (.istore_n 2, 1) := by decide +kernel
theorem dX1_risen_32 : decode cX1_risen 32 = .ok (.iload_n 1, 1) := by decide +kernel
theorem dX1_risen_33 : decode cX1_risen 33 = .ok (.aload_n 0, 1) := by decide +kernel
theorem dX1_risen_34 : decode cX1_risen 34 = .ok (.getfield 18, 3) := by decide +kernel
theorem dX1_risen_37 : decode cX1_risen 37 = .ok (.iload_n 3, 1) := by decide +kernel
theorem dX1_risen_38 : decode cX1_risen 38 = .ok (.iaload, 1) := by decide +kernel
theorem dX1_risen_39 : decode cX1_risen 39 = .ok (.iadd, 1) := by decide +kernel
theorem dX1_risen_40 : decode cX1_risen 40 = .ok (.istore_n 1, 1) := by decide +kernel
theorem dX1_risen_41 : decode cX1_risen 41 = .ok (.iinc 3 1, 3) := by decide +kernel
theorem dX1_risen_44 : decode cX1_risen 44 = .ok (.goto (-38), 3) := by decide +kernel
theorem dX1_risen_47 : decode cX1_risen 47 = .ok (.iload_n 2, 1) := by decide +kernel
theorem dX1_risen_48 : decode cX1_risen 48 = .ok (.ireturn, 1) := by decide +kernel
set_option maxRecDepth 20000 in
theorem ggX1_waysToRise_J7_fill_53178 : GoodIn wsX1_waysToRise wsJ7_fill_53178 := goodIn_r _ [13] (by decide +kernel) (by decide +kernel)
set_option maxRecDepth 20000 in
theorem gX1_waysToRise_J7_fill_53178 : GoodIn wsX1_waysToRise (va_wsS RX1 40 yJ7_fill_53178 wsJ7_fill_53178) := goodIn_app (goodIn_of _ (by decide +kernel)) ggX1_waysToRise_J7_fill_53178
set_option maxRecDepth 20000 in
theorem ggX1_waysToRise_X1_addGroup : GoodIn wsX1_waysToRise wsX1_addGroup := goodIn_r _ [18, 1, 19, 20, 8, 21, 22, 23, 24, 17, 25, 3, 26, 27, 28, 29, 30, 31, 32, 33] (by decide +kernel) (by decide +kernel)
set_option maxRecDepth 20000 in
theorem gX1_waysToRise_X1_addGroup : GoodIn wsX1_waysToRise (wsV RX1 46 RX1 yX1_addGroup wsX1_addGroup) := goodIn_app (goodIn_of _ (by decide +kernel)) ggX1_waysToRise_X1_addGroup
theorem dX1_waysToRise_0 : decode cX1_waysToRise 0 = .ok (.aload_n 0, 1) := by decide +kernel
theorem dX1_waysToRise_1 : decode cX1_waysToRise 1 = .ok (.getfield 11, 3) := by decide +kernel
theorem dX1_waysToRise_4 : decode cX1_waysToRise 4 = .ok (.aload_n 0, 1) := by decide +kernel
theorem dX1_waysToRise_5 : decode cX1_waysToRise 5 = .ok (.getfield 15, 3) := by decide +kernel
theorem dX1_waysToRise_8 : decode cX1_waysToRise 8 = .ok (.iadd, 1) := by decide +kernel
theorem dX1_waysToRise_9 : decode cX1_waysToRise 9 = .ok (.bipush 20, 2) := by decide +kernel
theorem dX1_waysToRise_11 : decode cX1_waysToRise 11 = .ok (.if_icmp .le 5, 3) := by decide +kernel
theorem dX1_waysToRise_14 : decode cX1_waysToRise 14 = .ok (.iconst 0, 1) := by decide +kernel
theorem dX1_waysToRise_15 : decode cX1_waysToRise 15 = .ok (.ireturn, 1) := by decide +kernel
theorem dX1_waysToRise_16 : decode cX1_waysToRise 16 = .ok (.aload_n 0, 1) := by decide +kernel
theorem dX1_waysToRise_17 : decode cX1_waysToRise 17 = .ok (.getfield 25, 3) := by decide +kernel
theorem dX1_waysToRise_20 : decode cX1_waysToRise 20 = .ok (.iconst 0, 1) := by decide +kernel
theorem dX1_waysToRise_21 : decode cX1_waysToRise 21 = .ok (.invokestatic 40, 3) := by decide +kernel
theorem dX1_waysToRise_24 : decode cX1_waysToRise 24 = .ok (.aload_n 0, 1) := by decide +kernel
theorem dX1_waysToRise_25 : decode cX1_waysToRise 25 = .ok (.getfield 25, 3) := by decide +kernel
theorem dX1_waysToRise_28 : decode cX1_waysToRise 28 = .ok (.iconst 0, 1) := by decide +kernel
theorem dX1_waysToRise_29 : decode cX1_waysToRise 29 = .ok (.iconst 1, 1) := by decide +kernel
theorem dX1_waysToRise_30 : decode cX1_waysToRise 30 = .ok (.iastore, 1) := by decide +kernel
theorem dX1_waysToRise_31 : decode cX1_waysToRise 31 = .ok (.iconst 0, 1) := by decide +kernel
theorem dX1_waysToRise_32 : decode cX1_waysToRise 32 = .ok (.istore_n 2, 1) := by decide +kernel
theorem dX1_waysToRise_33 : decode cX1_waysToRise 33 = .ok (.iconst 0, 1) := by decide +kernel
theorem dX1_waysToRise_34 : decode cX1_waysToRise 34 = .ok (.istore_n 3, 1) := by decide +kernel
theorem dX1_waysToRise_35 : decode cX1_waysToRise 35 = .ok (.iload_n 3, 1) := by decide +kernel
theorem dX1_waysToRise_36 : decode cX1_waysToRise 36 = .ok (.bipush 10, 2) := by decide +kernel
theorem dX1_waysToRise_38 : decode cX1_waysToRise 38 = .ok (.if_icmp .ge 36, 3) := by decide +kernel
theorem dX1_waysToRise_41 : decode cX1_waysToRise 41 = .ok (.aload_n 0, 1) := by decide +kernel
theorem dX1_waysToRise_42 : decode cX1_waysToRise 42 = .ok (.getfield 18, 3) := by decide +kernel
theorem dX1_waysToRise_45 : decode cX1_waysToRise 45 = .ok (.iload_n 3, 1) := by decide +kernel
theorem dX1_waysToRise_46 : decode cX1_waysToRise 46 = .ok (.iaload, 1) := by decide +kernel
theorem dX1_waysToRise_47 : decode cX1_waysToRise 47 = .ok (.aload_n 0, 1) := by decide +kernel
theorem dX1_waysToRise_48 : decode cX1_waysToRise 48 = .ok (.getfield 22, 3) := by decide +kernel
theorem dX1_waysToRise_51 : decode cX1_waysToRise 51 = .ok (.iload_n 3, 1) := by decide +kernel
theorem dX1_waysToRise_52 : decode cX1_waysToRise 52 = .ok (.iaload, 1) := by decide +kernel
theorem dX1_waysToRise_53 : decode cX1_waysToRise 53 = .ok (.iadd, 1) := by decide +kernel
theorem dX1_waysToRise_54 : decode cX1_waysToRise 54 = .ok (.istore 4, 2) := by decide +kernel
theorem dX1_waysToRise_56 : decode cX1_waysToRise 56 = .ok (.aload_n 0, 1) := by decide +kernel
theorem dX1_waysToRise_57 : decode cX1_waysToRise 57 = .ok (.iload_n 2, 1) := by decide +kernel
theorem dX1_waysToRise_58 : decode cX1_waysToRise 58 = .ok (.iload 4, 2) := by decide +kernel
theorem dX1_waysToRise_60 : decode cX1_waysToRise 60 = .ok (.invokevirtual 46, 3) := by decide +kernel
theorem dX1_waysToRise_63 : decode cX1_waysToRise 63 = .ok (.iload_n 2, 1) := by decide +kernel
theorem dX1_waysToRise_64 : decode cX1_waysToRise 64 = .ok (.iload 4, 2) := by decide +kernel
theorem dX1_waysToRise_66 : decode cX1_waysToRise 66 = .ok (.iadd, 1) := by decide +kernel
theorem dX1_waysToRise_67 : decode cX1_waysToRise 67 = .ok (.istore_n 2, 1) := by decide +kernel
theorem dX1_waysToRise_68 : decode cX1_waysToRise 68 = .ok (.iinc 3 1, 3) := by decide +kernel
theorem dX1_waysToRise_71 : decode cX1_waysToRise 71 = .ok (.goto (-36), 3) := by decide +kernel
theorem dX1_waysToRise_74 : decode cX1_waysToRise 74 = .ok (.iconst 0, 1) := by decide +kernel
theorem dX1_waysToRise_75 : decode cX1_waysToRise 75 = .ok (.istore_n 3, 1) := by decide +kernel
theorem dX1_waysToRise_76 : decode cX1_waysToRise 76 = .ok (.iconst 0, 1) := by decide +kernel
theorem dX1_waysToRise_77 : decode cX1_waysToRise 77 = .ok (.iload_n 1, 1) := by decide +kernel
theorem dX1_waysToRise_78 : decode cX1_waysToRise 78 = .ok (.invokestatic 50, 3) := by decide +kernel
theorem dX1_waysToRise_81 : decode cX1_waysToRise 81 = .ok (.istore 4, 2) := by decide +kernel
theorem dX1_waysToRise_83 : decode cX1_waysToRise 83 = .ok (.iload 4, 2) := by decide +kernel
theorem dX1_waysToRise_85 : decode cX1_waysToRise 85 = .ok (.sipush 200, 3) := by decide +kernel
theorem dX1_waysToRise_88 : decode cX1_waysToRise 88 = .ok (.if_icmp .gt 28, 3) := by decide +kernel
theorem dX1_waysToRise_91 : decode cX1_waysToRise 91 = .ok (.iload_n 3, 1) := by decide +kernel
theorem dX1_waysToRise_92 : decode cX1_waysToRise 92 = .ok (.aload_n 0, 1) := by decide +kernel
theorem dX1_waysToRise_93 : decode cX1_waysToRise 93 = .ok (.getfield 25, 3) := by decide +kernel
theorem dX1_waysToRise_96 : decode cX1_waysToRise 96 = .ok (.aload_n 0, 1) := by decide +kernel
theorem dX1_waysToRise_97 : decode cX1_waysToRise 97 = .ok (.getfield 11, 3) := by decide +kernel
theorem dX1_waysToRise_100 : decode cX1_waysToRise 100 = .ok (.sipush 201, 3) := by decide +kernel
theorem dX1_waysToRise_103 : decode cX1_waysToRise 103 = .ok (.imul, 1) := by decide +kernel
theorem dX1_waysToRise_104 : decode cX1_waysToRise 104 = .ok (.iload 4, 2) := by decide +kernel
theorem dX1_waysToRise_106 : decode cX1_waysToRise 106 = .ok (.iadd, 1) := by decide +kernel
theorem dX1_waysToRise_107 : decode cX1_waysToRise 107 = .ok (.iaload, 1) := by decide +kernel
theorem dX1_waysToRise_108 : decode cX1_waysToRise 108 = .ok (.iadd, 1) := by decide +kernel
theorem dX1_waysToRise_109 : decode cX1_waysToRise 109 = .ok (.istore_n 3, 1) := by decide +kernel
theorem dX1_waysToRise_110 : decode cX1_waysToRise 110 = .ok (.iinc 4 1, 3) := by decide +kernel
theorem dX1_waysToRise_113 : decode cX1_waysToRise 113 = .ok (.goto (-30), 3) := by decide +kernel
theorem dX1_waysToRise_116 : decode cX1_waysToRise 116 = .ok (.iload_n 3, 1) := by decide +kernel
theorem dX1_waysToRise_117 : decode cX1_waysToRise 117 = .ok (.ireturn, 1) := by decide +kernel
set_option maxRecDepth 20000 in
theorem ggX1_addGroup_X1_moveWays : GoodIn wsX1_addGroup wsX1_moveWays := goodIn_r _ [10, 11, 1, 12, 13, 14, 15, 16, 17, 18, 19] (by decide +kernel) (by decide +kernel)
set_option maxRecDepth 20000 in
theorem gX1_addGroup_X1_moveWays : GoodIn wsX1_addGroup (wsV RX1 59 RX1 yX1_moveWays wsX1_moveWays) := goodIn_app (goodIn_of _ (by decide +kernel)) ggX1_addGroup_X1_moveWays
theorem dX1_addGroup_0 : decode cX1_addGroup 0 = .ok (.iload_n 1, 1) := by decide +kernel
theorem dX1_addGroup_1 : decode cX1_addGroup 1 = .ok (.aload_n 0, 1) := by decide +kernel
theorem dX1_addGroup_2 : decode cX1_addGroup 2 = .ok (.getfield 11, 3) := by decide +kernel
theorem dX1_addGroup_5 : decode cX1_addGroup 5 = .ok (.invokestatic 56, 3) := by decide +kernel
theorem dX1_addGroup_8 : decode cX1_addGroup 8 = .ok (.istore_n 3, 1) := by decide +kernel
theorem dX1_addGroup_9 : decode cX1_addGroup 9 = .ok (.iload_n 3, 1) := by decide +kernel
theorem dX1_addGroup_10 : decode cX1_addGroup 10 = .ok (.ifCond .lt 37, 3) := by decide +kernel
theorem dX1_addGroup_13 : decode cX1_addGroup 13 = .ok (.iconst 2, 1) := by decide +kernel
theorem dX1_addGroup_14 : decode cX1_addGroup 14 = .ok (.iload_n 3, 1) := by decide +kernel
theorem dX1_addGroup_15 : decode cX1_addGroup 15 = .ok (.imul, 1) := by decide +kernel
theorem dX1_addGroup_16 : decode cX1_addGroup 16 = .ok (.iload_n 1, 1) := by decide +kernel
theorem dX1_addGroup_17 : decode cX1_addGroup 17 = .ok (.iload_n 3, 1) := by decide +kernel
theorem dX1_addGroup_18 : decode cX1_addGroup 18 = .ok (.isub, 1) := by decide +kernel
theorem dX1_addGroup_19 : decode cX1_addGroup 19 = .ok (.imul, 1) := by decide +kernel
theorem dX1_addGroup_20 : decode cX1_addGroup 20 = .ok (.istore 4, 2) := by decide +kernel
theorem dX1_addGroup_22 : decode cX1_addGroup 22 = .ok (.iload 4, 2) := by decide +kernel
theorem dX1_addGroup_24 : decode cX1_addGroup 24 = .ok (.ifCond .lt 17, 3) := by decide +kernel
theorem dX1_addGroup_27 : decode cX1_addGroup 27 = .ok (.aload_n 0, 1) := by decide +kernel
theorem dX1_addGroup_28 : decode cX1_addGroup 28 = .ok (.iload_n 3, 1) := by decide +kernel
theorem dX1_addGroup_29 : decode cX1_addGroup 29 = .ok (.iload 4, 2) := by decide +kernel
theorem dX1_addGroup_31 : decode cX1_addGroup 31 = .ok (.iload_n 2, 1) := by decide +kernel
theorem dX1_addGroup_32 : decode cX1_addGroup 32 = .ok (.invokevirtual 59, 3) := by decide +kernel
theorem dX1_addGroup_35 : decode cX1_addGroup 35 = .ok (.iinc 4 (-1), 3) := by decide +kernel
theorem dX1_addGroup_38 : decode cX1_addGroup 38 = .ok (.goto (-16), 3) := by decide +kernel
theorem dX1_addGroup_41 : decode cX1_addGroup 41 = .ok (.iinc 3 (-1), 3) := by decide +kernel
theorem dX1_addGroup_44 : decode cX1_addGroup 44 = .ok (.goto (-35), 3) := by decide +kernel
theorem dX1_addGroup_47 : decode cX1_addGroup 47 = .ok (.return_, 1) := by decide +kernel
set_option maxRecDepth 20000 in
theorem ggX1_moveWays_X4_waysToChoose : GoodIn wsX1_moveWays wsX4_waysToChoose := goodIn_r _ [5] (by decide +kernel) (by decide +kernel)
set_option maxRecDepth 20000 in
theorem gX1_moveWays_X4_waysToChoose_n63 : GoodIn wsX1_moveWays (wsX4_waysToChoose) := ggX1_moveWays_X4_waysToChoose
theorem dX1_moveWays_0 : decode cX1_moveWays 0 = .ok (.iload_n 1, 1) := by decide +kernel
theorem dX1_moveWays_1 : decode cX1_moveWays 1 = .ok (.sipush 201, 3) := by decide +kernel
theorem dX1_moveWays_4 : decode cX1_moveWays 4 = .ok (.imul, 1) := by decide +kernel
theorem dX1_moveWays_5 : decode cX1_moveWays 5 = .ok (.iload_n 2, 1) := by decide +kernel
theorem dX1_moveWays_6 : decode cX1_moveWays 6 = .ok (.iadd, 1) := by decide +kernel
theorem dX1_moveWays_7 : decode cX1_moveWays 7 = .ok (.istore 4, 2) := by decide +kernel
theorem dX1_moveWays_9 : decode cX1_moveWays 9 = .ok (.aload_n 0, 1) := by decide +kernel
theorem dX1_moveWays_10 : decode cX1_moveWays 10 = .ok (.getfield 25, 3) := by decide +kernel
theorem dX1_moveWays_13 : decode cX1_moveWays 13 = .ok (.iload 4, 2) := by decide +kernel
theorem dX1_moveWays_15 : decode cX1_moveWays 15 = .ok (.iaload, 1) := by decide +kernel
theorem dX1_moveWays_16 : decode cX1_moveWays 16 = .ok (.istore 5, 2) := by decide +kernel
theorem dX1_moveWays_18 : decode cX1_moveWays 18 = .ok (.iload 5, 2) := by decide +kernel
theorem dX1_moveWays_20 : decode cX1_moveWays 20 = .ok (.ifCond .ne 4, 3) := by decide +kernel
theorem dX1_moveWays_23 : decode cX1_moveWays 23 = .ok (.return_, 1) := by decide +kernel
theorem dX1_moveWays_24 : decode cX1_moveWays 24 = .ok (.aload_n 0, 1) := by decide +kernel
theorem dX1_moveWays_25 : decode cX1_moveWays 25 = .ok (.getfield 25, 3) := by decide +kernel
theorem dX1_moveWays_28 : decode cX1_moveWays 28 = .ok (.iload 4, 2) := by decide +kernel
theorem dX1_moveWays_30 : decode cX1_moveWays 30 = .ok (.iconst 0, 1) := by decide +kernel
theorem dX1_moveWays_31 : decode cX1_moveWays 31 = .ok (.iastore, 1) := by decide +kernel
theorem dX1_moveWays_32 : decode cX1_moveWays 32 = .ok (.iconst 0, 1) := by decide +kernel
theorem dX1_moveWays_33 : decode cX1_moveWays 33 = .ok (.istore 6, 2) := by decide +kernel
theorem dX1_moveWays_35 : decode cX1_moveWays 35 = .ok (.iload 6, 2) := by decide +kernel
theorem dX1_moveWays_37 : decode cX1_moveWays 37 = .ok (.iload_n 3, 1) := by decide +kernel
theorem dX1_moveWays_38 : decode cX1_moveWays 38 = .ok (.if_icmp .gt 71, 3) := by decide +kernel
theorem dX1_moveWays_41 : decode cX1_moveWays 41 = .ok (.iload_n 1, 1) := by decide +kernel
theorem dX1_moveWays_42 : decode cX1_moveWays 42 = .ok (.iload 6, 2) := by decide +kernel
theorem dX1_moveWays_44 : decode cX1_moveWays 44 = .ok (.iadd, 1) := by decide +kernel
theorem dX1_moveWays_45 : decode cX1_moveWays 45 = .ok (.aload_n 0, 1) := by decide +kernel
theorem dX1_moveWays_46 : decode cX1_moveWays 46 = .ok (.getfield 11, 3) := by decide +kernel
theorem dX1_moveWays_49 : decode cX1_moveWays 49 = .ok (.if_icmp .gt 60, 3) := by decide +kernel
theorem dX1_moveWays_52 : decode cX1_moveWays 52 = .ok (.iload_n 2, 1) := by decide +kernel
theorem dX1_moveWays_53 : decode cX1_moveWays 53 = .ok (.iload_n 3, 1) := by decide +kernel
theorem dX1_moveWays_54 : decode cX1_moveWays 54 = .ok (.iload 6, 2) := by decide +kernel
theorem dX1_moveWays_56 : decode cX1_moveWays 56 = .ok (.isub, 1) := by decide +kernel
theorem dX1_moveWays_57 : decode cX1_moveWays 57 = .ok (.iconst 2, 1) := by decide +kernel
theorem dX1_moveWays_58 : decode cX1_moveWays 58 = .ok (.iload_n 1, 1) := by decide +kernel
theorem dX1_moveWays_59 : decode cX1_moveWays 59 = .ok (.imul, 1) := by decide +kernel
theorem dX1_moveWays_60 : decode cX1_moveWays 60 = .ok (.iload 6, 2) := by decide +kernel
theorem dX1_moveWays_62 : decode cX1_moveWays 62 = .ok (.iadd, 1) := by decide +kernel
theorem dX1_moveWays_63 : decode cX1_moveWays 63 = .ok (.imul, 1) := by decide +kernel
theorem dX1_moveWays_64 : decode cX1_moveWays 64 = .ok (.iadd, 1) := by decide +kernel
theorem dX1_moveWays_65 : decode cX1_moveWays 65 = .ok (.istore 7, 2) := by decide +kernel
theorem dX1_moveWays_67 : decode cX1_moveWays 67 = .ok (.iload 7, 2) := by decide +kernel
theorem dX1_moveWays_69 : decode cX1_moveWays 69 = .ok (.sipush 200, 3) := by decide +kernel
theorem dX1_moveWays_72 : decode cX1_moveWays 72 = .ok (.if_icmp .gt 31, 3) := by decide +kernel
theorem dX1_moveWays_75 : decode cX1_moveWays 75 = .ok (.aload_n 0, 1) := by decide +kernel
theorem dX1_moveWays_76 : decode cX1_moveWays 76 = .ok (.getfield 25, 3) := by decide +kernel
theorem dX1_moveWays_79 : decode cX1_moveWays 79 = .ok (.iload_n 1, 1) := by decide +kernel
theorem dX1_moveWays_80 : decode cX1_moveWays 80 = .ok (.iload 6, 2) := by decide +kernel
theorem dX1_moveWays_82 : decode cX1_moveWays 82 = .ok (.iadd, 1) := by decide +kernel
theorem dX1_moveWays_83 : decode cX1_moveWays 83 = .ok (.sipush 201, 3) := by decide +kernel
theorem dX1_moveWays_86 : decode cX1_moveWays 86 = .ok (.imul, 1) := by decide +kernel
theorem dX1_moveWays_87 : decode cX1_moveWays 87 = .ok (.iload 7, 2) := by decide +kernel
theorem dX1_moveWays_89 : decode cX1_moveWays 89 = .ok (.iadd, 1) := by decide +kernel
theorem dX1_moveWays_90 : decode cX1_moveWays 90 = .ok (.dup2, 1) := by decide +kernel
theorem dX1_moveWays_91 : decode cX1_moveWays 91 = .ok (.iaload, 1) := by decide +kernel
theorem dX1_moveWays_92 : decode cX1_moveWays 92 = .ok (.iload 5, 2) := by decide +kernel
theorem dX1_moveWays_94 : decode cX1_moveWays 94 = .ok (.iload_n 3, 1) := by decide +kernel
theorem dX1_moveWays_95 : decode cX1_moveWays 95 = .ok (.iload 6, 2) := by decide +kernel
theorem dX1_moveWays_97 : decode cX1_moveWays 97 = .ok (.invokestatic 63, 3) := by decide +kernel
theorem dX1_moveWays_100 : decode cX1_moveWays 100 = .ok (.imul, 1) := by decide +kernel
theorem dX1_moveWays_101 : decode cX1_moveWays 101 = .ok (.iadd, 1) := by decide +kernel
theorem dX1_moveWays_102 : decode cX1_moveWays 102 = .ok (.iastore, 1) := by decide +kernel
theorem dX1_moveWays_103 : decode cX1_moveWays 103 = .ok (.iinc 6 1, 3) := by decide +kernel
theorem dX1_moveWays_106 : decode cX1_moveWays 106 = .ok (.goto (-71), 3) := by decide +kernel
theorem dX1_moveWays_109 : decode cX1_moveWays 109 = .ok (.return_, 1) := by decide +kernel
theorem dX2_init_0 : decode cX2_init 0 = .ok (.aload_n 0, 1) := by decide +kernel
theorem dX2_init_1 : decode cX2_init 1 = .ok (.invokespecial 3, 3) := by decide +kernel
theorem dX2_init_4 : decode cX2_init 4 = .ok (.aload_n 0, 1) := by decide +kernel
theorem dX2_init_5 : decode cX2_init 5 = .ok (.iconst 0, 1) := by decide +kernel
theorem dX2_init_6 : decode cX2_init 6 = .ok (.putfield 9, 3) := by decide +kernel
theorem dX2_init_9 : decode cX2_init 9 = .ok (.aload_n 0, 1) := by decide +kernel
theorem dX2_init_10 : decode cX2_init 10 = .ok (.lconst 0, 1) := by decide +kernel
theorem dX2_init_11 : decode cX2_init 11 = .ok (.putfield 15, 3) := by decide +kernel
theorem dX2_init_14 : decode cX2_init 14 = .ok (.aload_n 0, 1) := by decide +kernel
theorem dX2_init_15 : decode cX2_init 15 = .ok (.bipush 48, 2) := by decide +kernel
theorem dX2_init_17 : decode cX2_init 17 = .ok (.newarray .int, 2) := by decide +kernel
theorem dX2_init_19 : decode cX2_init 19 = .ok (.putfield 19, 3) := by decide +kernel
theorem dX2_init_22 : decode cX2_init 22 = .ok (.aload_n 0, 1) := by decide +kernel
theorem dX2_init_23 : decode cX2_init 23 = .ok (.bipush 55, 2) := by decide +kernel
theorem dX2_init_25 : decode cX2_init 25 = .ok (.newarray .long, 2) := by decide +kernel
theorem dX2_init_27 : decode cX2_init 27 = .ok (.putfield 23, 3) := by decide +kernel
theorem dX2_init_30 : decode cX2_init 30 = .ok (.return_, 1) := by decide +kernel
set_option maxRecDepth 20000 in
theorem ggX2_has_X4_isWithin : GoodIn wsX2_has wsX4_isWithin := goodIn_r _ [4] (by decide +kernel) (by decide +kernel)
set_option maxRecDepth 20000 in
theorem gX2_has_X4_isWithin_n27 : GoodIn wsX2_has (wsX4_isWithin) := ggX2_has_X4_isWithin
theorem dX2_has_0 : decode cX2_has 0 = .ok (.iload_n 1, 1) := by decide +kernel
theorem dX2_has_1 : decode cX2_has 1 = .ok (.iconst 0, 1) := by decide +kernel
theorem dX2_has_2 : decode cX2_has 2 = .ok (.aload_n 0, 1) := by decide +kernel
theorem dX2_has_3 : decode cX2_has 3 = .ok (.getfield 9, 3) := by decide +kernel
theorem dX2_has_6 : decode cX2_has 6 = .ok (.iconst 1, 1) := by decide +kernel
theorem dX2_has_7 : decode cX2_has 7 = .ok (.isub, 1) := by decide +kernel
theorem dX2_has_8 : decode cX2_has 8 = .ok (.invokestatic 27, 3) := by decide +kernel
theorem dX2_has_11 : decode cX2_has 11 = .ok (.ireturn, 1) := by decide +kernel
set_option maxRecDepth 20000 in
theorem ggX2_add_X4_conditionOf : GoodIn wsX2_add wsX4_conditionOf := goodIn_r _ [7] (by decide +kernel) (by decide +kernel)
set_option maxRecDepth 20000 in
theorem gX2_add_X4_conditionOf_n31 : GoodIn wsX2_add (wsX4_conditionOf) := ggX2_add_X4_conditionOf
theorem dX2_add_0 : decode cX2_add 0 = .ok (.aload_n 0, 1) := by decide +kernel
theorem dX2_add_1 : decode cX2_add 1 = .ok (.getfield 9, 3) := by decide +kernel
theorem dX2_add_4 : decode cX2_add 4 = .ok (.istore_n 3, 1) := by decide +kernel
theorem dX2_add_5 : decode cX2_add 5 = .ok (.aload_n 0, 1) := by decide +kernel
theorem dX2_add_6 : decode cX2_add 6 = .ok (.getfield 19, 3) := by decide +kernel
theorem dX2_add_9 : decode cX2_add 9 = .ok (.iload_n 3, 1) := by decide +kernel
theorem dX2_add_10 : decode cX2_add 10 = .ok (.iload_n 1, 1) := by decide +kernel
theorem dX2_add_11 : decode cX2_add 11 = .ok (.iastore, 1) := by decide +kernel
theorem dX2_add_12 : decode cX2_add 12 = .ok (.iload_n 2, 1) := by decide +kernel
theorem dX2_add_13 : decode cX2_add 13 = .ok (.ifCond .eq 15, 3) := by decide +kernel
theorem dX2_add_16 : decode cX2_add 16 = .ok (.aload_n 0, 1) := by decide +kernel
theorem dX2_add_17 : decode cX2_add 17 = .ok (.dup, 1) := by decide +kernel
theorem dX2_add_18 : decode cX2_add 18 = .ok (.getfield 15, 3) := by decide +kernel
theorem dX2_add_21 : decode cX2_add 21 = .ok (.lconst 1, 1) := by decide +kernel
theorem dX2_add_22 : decode cX2_add 22 = .ok (.iload_n 3, 1) := by decide +kernel
theorem dX2_add_23 : decode cX2_add 23 = .ok (.lshl, 1) := by decide +kernel
theorem dX2_add_24 : decode cX2_add 24 = .ok (.lor, 1) := by decide +kernel
theorem dX2_add_25 : decode cX2_add 25 = .ok (.putfield 15, 3) := by decide +kernel
theorem dX2_add_28 : decode cX2_add 28 = .ok (.iconst 0, 1) := by decide +kernel
theorem dX2_add_29 : decode cX2_add 29 = .ok (.istore 4, 2) := by decide +kernel
theorem dX2_add_31 : decode cX2_add 31 = .ok (.iload 4, 2) := by decide +kernel
theorem dX2_add_33 : decode cX2_add 33 = .ok (.iconst 5, 1) := by decide +kernel
theorem dX2_add_34 : decode cX2_add 34 = .ok (.if_icmp .ge 27, 3) := by decide +kernel
theorem dX2_add_37 : decode cX2_add 37 = .ok (.aload_n 0, 1) := by decide +kernel
theorem dX2_add_38 : decode cX2_add 38 = .ok (.getfield 23, 3) := by decide +kernel
theorem dX2_add_41 : decode cX2_add 41 = .ok (.iload 4, 2) := by decide +kernel
theorem dX2_add_43 : decode cX2_add 43 = .ok (.bipush 10, 2) := by decide +kernel
theorem dX2_add_45 : decode cX2_add 45 = .ok (.invokestatic 31, 3) := by decide +kernel
theorem dX2_add_48 : decode cX2_add 48 = .ok (.dup2, 1) := by decide +kernel
theorem dX2_add_49 : decode cX2_add 49 = .ok (.laload, 1) := by decide +kernel
theorem dX2_add_50 : decode cX2_add 50 = .ok (.lconst 1, 1) := by decide +kernel
theorem dX2_add_51 : decode cX2_add 51 = .ok (.iload_n 3, 1) := by decide +kernel
theorem dX2_add_52 : decode cX2_add 52 = .ok (.lshl, 1) := by decide +kernel
theorem dX2_add_53 : decode cX2_add 53 = .ok (.lor, 1) := by decide +kernel
theorem dX2_add_54 : decode cX2_add 54 = .ok (.lastore, 1) := by decide +kernel
theorem dX2_add_55 : decode cX2_add 55 = .ok (.iinc 4 1, 3) := by decide +kernel
theorem dX2_add_58 : decode cX2_add 58 = .ok (.goto (-27), 3) := by decide +kernel
theorem dX2_add_61 : decode cX2_add 61 = .ok (.aload_n 0, 1) := by decide +kernel
theorem dX2_add_62 : decode cX2_add 62 = .ok (.dup, 1) := by decide +kernel
theorem dX2_add_63 : decode cX2_add 63 = .ok (.getfield 9, 3) := by decide +kernel
theorem dX2_add_66 : decode cX2_add 66 = .ok (.iconst 1, 1) := by decide +kernel
theorem dX2_add_67 : decode cX2_add 67 = .ok (.iadd, 1) := by decide +kernel
theorem dX2_add_68 : decode cX2_add 68 = .ok (.putfield 9, 3) := by decide +kernel
theorem dX2_add_71 : decode cX2_add 71 = .ok (.iload_n 3, 1) := by decide +kernel
theorem dX2_add_72 : decode cX2_add 72 = .ok (.ireturn, 1) := by decide +kernel
set_option maxRecDepth 20000 in
theorem ggX2_change_X2_sortAt : GoodIn wsX2_change wsX2_sortAt := goodIn_r _ [7, 8, 9, 10, 6, 11, 1, 12, 13, 14, 15, 16, 17, 18] (by decide +kernel) (by decide +kernel)
set_option maxRecDepth 20000 in
theorem gX2_change_X2_sortAt : GoodIn wsX2_change (wsV RX2 35 RX2 yX2_sortAt wsX2_sortAt) := goodIn_app (goodIn_of _ (by decide +kernel)) ggX2_change_X2_sortAt
set_option maxRecDepth 20000 in
theorem ggX2_change_X4_conditionOf : GoodIn wsX2_change wsX4_conditionOf := goodIn_r _ [14] (by decide +kernel) (by decide +kernel)
set_option maxRecDepth 20000 in
theorem gX2_change_X4_conditionOf_n31 : GoodIn wsX2_change (wsX4_conditionOf) := ggX2_change_X4_conditionOf
theorem dX2_change_0 : decode cX2_change 0 = .ok (.aload_n 0, 1) := by decide +kernel
theorem dX2_change_1 : decode cX2_change 1 = .ok (.iload_n 1, 1) := by decide +kernel
theorem dX2_change_2 : decode cX2_change 2 = .ok (.iload_n 2, 1) := by decide +kernel
theorem dX2_change_3 : decode cX2_change 3 = .ok (.invokevirtual 35, 3) := by decide +kernel
theorem dX2_change_6 : decode cX2_change 6 = .ok (.istore 4, 2) := by decide +kernel
theorem dX2_change_8 : decode cX2_change 8 = .ok (.aload_n 0, 1) := by decide +kernel
theorem dX2_change_9 : decode cX2_change 9 = .ok (.getfield 23, 3) := by decide +kernel
theorem dX2_change_12 : decode cX2_change 12 = .ok (.iload_n 2, 1) := by decide +kernel
theorem dX2_change_13 : decode cX2_change 13 = .ok (.iload 4, 2) := by decide +kernel
theorem dX2_change_15 : decode cX2_change 15 = .ok (.invokestatic 31, 3) := by decide +kernel
theorem dX2_change_18 : decode cX2_change 18 = .ok (.dup2, 1) := by decide +kernel
theorem dX2_change_19 : decode cX2_change 19 = .ok (.laload, 1) := by decide +kernel
theorem dX2_change_20 : decode cX2_change 20 = .ok (.lconst 1, 1) := by decide +kernel
theorem dX2_change_21 : decode cX2_change 21 = .ok (.iload_n 1, 1) := by decide +kernel
theorem dX2_change_22 : decode cX2_change 22 = .ok (.lshl, 1) := by decide +kernel
theorem dX2_change_23 : decode cX2_change 23 = .ok (.ldc2_w 38, 3) := by decide +kernel
theorem dX2_change_26 : decode cX2_change 26 = .ok (.lxor, 1) := by decide +kernel
theorem dX2_change_27 : decode cX2_change 27 = .ok (.land, 1) := by decide +kernel
theorem dX2_change_28 : decode cX2_change 28 = .ok (.lastore, 1) := by decide +kernel
theorem dX2_change_29 : decode cX2_change 29 = .ok (.aload_n 0, 1) := by decide +kernel
theorem dX2_change_30 : decode cX2_change 30 = .ok (.getfield 23, 3) := by decide +kernel
theorem dX2_change_33 : decode cX2_change 33 = .ok (.iload_n 2, 1) := by decide +kernel
theorem dX2_change_34 : decode cX2_change 34 = .ok (.iload_n 3, 1) := by decide +kernel
theorem dX2_change_35 : decode cX2_change 35 = .ok (.invokestatic 31, 3) := by decide +kernel
theorem dX2_change_38 : decode cX2_change 38 = .ok (.dup2, 1) := by decide +kernel
theorem dX2_change_39 : decode cX2_change 39 = .ok (.laload, 1) := by decide +kernel
theorem dX2_change_40 : decode cX2_change 40 = .ok (.lconst 1, 1) := by decide +kernel
theorem dX2_change_41 : decode cX2_change 41 = .ok (.iload_n 1, 1) := by decide +kernel
theorem dX2_change_42 : decode cX2_change 42 = .ok (.lshl, 1) := by decide +kernel
theorem dX2_change_43 : decode cX2_change 43 = .ok (.lor, 1) := by decide +kernel
theorem dX2_change_44 : decode cX2_change 44 = .ok (.lastore, 1) := by decide +kernel
theorem dX2_change_45 : decode cX2_change 45 = .ok (.iload 4, 2) := by decide +kernel
theorem dX2_change_47 : decode cX2_change 47 = .ok (.ireturn, 1) := by decide +kernel
set_option maxRecDepth 20000 in
theorem ggX2_sortAt_X2_withSort : GoodIn wsX2_sortAt wsX2_withSort := goodIn_r _ [5, 6, 7, 8, 9, 10, 11, 12, 13] (by decide +kernel) (by decide +kernel)
set_option maxRecDepth 20000 in
theorem gX2_sortAt_X2_withSort : GoodIn wsX2_sortAt (wsV RX2 40 RX2 yX2_withSort wsX2_withSort) := goodIn_app (goodIn_of _ (by decide +kernel)) ggX2_sortAt_X2_withSort
theorem dX2_sortAt_0 : decode cX2_sortAt 0 = .ok (.iconst 0, 1) := by decide +kernel
theorem dX2_sortAt_1 : decode cX2_sortAt 1 = .ok (.istore_n 3, 1) := by decide +kernel
theorem dX2_sortAt_2 : decode cX2_sortAt 2 = .ok (.iload_n 3, 1) := by decide +kernel
theorem dX2_sortAt_3 : decode cX2_sortAt 3 = .ok (.bipush 10, 2) := by decide +kernel
theorem dX2_sortAt_5 : decode cX2_sortAt 5 = .ok (.if_icmp .ge 26, 3) := by decide +kernel
theorem dX2_sortAt_8 : decode cX2_sortAt 8 = .ok (.aload_n 0, 1) := by decide +kernel
theorem dX2_sortAt_9 : decode cX2_sortAt 9 = .ok (.iload_n 2, 1) := by decide +kernel
theorem dX2_sortAt_10 : decode cX2_sortAt 10 = .ok (.iload_n 3, 1) := by decide +kernel
theorem dX2_sortAt_11 : decode cX2_sortAt 11 = .ok (.invokevirtual 40, 3) := by decide +kernel
theorem dX2_sortAt_14 : decode cX2_sortAt 14 = .ok (.lconst 1, 1) := by decide +kernel
theorem dX2_sortAt_15 : decode cX2_sortAt 15 = .ok (.iload_n 1, 1) := by decide +kernel
theorem dX2_sortAt_16 : decode cX2_sortAt 16 = .ok (.lshl, 1) := by decide +kernel
theorem dX2_sortAt_17 : decode cX2_sortAt 17 = .ok (.land, 1) := by decide +kernel
theorem dX2_sortAt_18 : decode cX2_sortAt 18 = .ok (.lconst 0, 1) := by decide +kernel
theorem dX2_sortAt_19 : decode cX2_sortAt 19 = .ok (.lcmp, 1) := by decide +kernel
theorem dX2_sortAt_20 : decode cX2_sortAt 20 = .ok (.ifCond .eq 5, 3) := by decide +kernel
theorem dX2_sortAt_23 : decode cX2_sortAt 23 = .ok (.iload_n 3, 1) := by decide +kernel
theorem dX2_sortAt_24 : decode cX2_sortAt 24 = .ok (.ireturn, 1) := by decide +kernel
theorem dX2_sortAt_25 : decode cX2_sortAt 25 = .ok (.iinc 3 1, 3) := by decide +kernel
theorem dX2_sortAt_28 : decode cX2_sortAt 28 = .ok (.goto (-26), 3) := by decide +kernel
theorem dX2_sortAt_31 : decode cX2_sortAt 31 = .ok (.bipush 10, 2) := by decide +kernel
theorem dX2_sortAt_33 : decode cX2_sortAt 33 = .ok (.ireturn, 1) := by decide +kernel
set_option maxRecDepth 20000 in
theorem ggX2_withSort_X4_conditionOf : GoodIn wsX2_withSort wsX4_conditionOf := goodIn_r _ [4] (by decide +kernel) (by decide +kernel)
set_option maxRecDepth 20000 in
theorem gX2_withSort_X4_conditionOf_n31 : GoodIn wsX2_withSort (wsX4_conditionOf) := ggX2_withSort_X4_conditionOf
theorem dX2_withSort_0 : decode cX2_withSort 0 = .ok (.aload_n 0, 1) := by decide +kernel
theorem dX2_withSort_1 : decode cX2_withSort 1 = .ok (.getfield 23, 3) := by decide +kernel
theorem dX2_withSort_4 : decode cX2_withSort 4 = .ok (.iload_n 1, 1) := by decide +kernel
theorem dX2_withSort_5 : decode cX2_withSort 5 = .ok (.iload_n 2, 1) := by decide +kernel
theorem dX2_withSort_6 : decode cX2_withSort 6 = .ok (.invokestatic 31, 3) := by decide +kernel
theorem dX2_withSort_9 : decode cX2_withSort 9 = .ok (.laload, 1) := by decide +kernel
theorem dX2_withSort_10 : decode cX2_withSort 10 = .ok (.lreturn, 1) := by decide +kernel
theorem dX2_between_0 : decode cX2_between 0 = .ok (.lconst 0, 1) := by decide +kernel
theorem dX2_between_1 : decode cX2_between 1 = .ok (.lstore_n 3, 1) := by decide +kernel
theorem dX2_between_2 : decode cX2_between 2 = .ok (.iconst 0, 1) := by decide +kernel
theorem dX2_between_3 : decode cX2_between 3 = .ok (.istore 5, 2) := by decide +kernel
theorem dX2_between_5 : decode cX2_between 5 = .ok (.iload 5, 2) := by decide +kernel
theorem dX2_between_7 : decode cX2_between 7 = .ok (.aload_n 0, 1) := by decide +kernel
theorem dX2_between_8 : decode cX2_between 8 = .ok (.getfield 9, 3) := by decide +kernel
theorem dX2_between_11 : decode cX2_between 11 = .ok (.if_icmp .ge 38, 3) := by decide +kernel
theorem dX2_between_14 : decode cX2_between 14 = .ok (.aload_n 0, 1) := by decide +kernel
theorem dX2_between_15 : decode cX2_between 15 = .ok (.getfield 19, 3) := by decide +kernel
theorem dX2_between_18 : decode cX2_between 18 = .ok (.iload 5, 2) := by decide +kernel
theorem dX2_between_20 : decode cX2_between 20 = .ok (.iaload, 1) := by decide +kernel
theorem dX2_between_21 : decode cX2_between 21 = .ok (.iload_n 1, 1) := by decide +kernel
theorem dX2_between_22 : decode cX2_between 22 = .ok (.if_icmp .lt 21, 3) := by decide +kernel
theorem dX2_between_25 : decode cX2_between 25 = .ok (.aload_n 0, 1) := by decide +kernel
theorem dX2_between_26 : decode cX2_between 26 = .ok (.getfield 19, 3) := by decide +kernel
theorem dX2_between_29 : decode cX2_between 29 = .ok (.iload 5, 2) := by decide +kernel
theorem dX2_between_31 : decode cX2_between 31 = .ok (.iaload, 1) := by decide +kernel
theorem dX2_between_32 : decode cX2_between 32 = .ok (.iload_n 2, 1) := by decide +kernel
theorem dX2_between_33 : decode cX2_between 33 = .ok (.if_icmp .ge 10, 3) := by decide +kernel
theorem dX2_between_36 : decode cX2_between 36 = .ok (.lload_n 3, 1) := by decide +kernel
theorem dX2_between_37 : decode cX2_between 37 = .ok (.lconst 1, 1) := by decide +kernel
theorem dX2_between_38 : decode cX2_between 38 = .ok (.iload 5, 2) := by decide +kernel
theorem dX2_between_40 : decode cX2_between 40 = .ok (.lshl, 1) := by decide +kernel
theorem dX2_between_41 : decode cX2_between 41 = .ok (.lor, 1) := by decide +kernel
theorem dX2_between_42 : decode cX2_between 42 = .ok (.lstore_n 3, 1) := by decide +kernel
theorem dX2_between_43 : decode cX2_between 43 = .ok (.iinc 5 1, 3) := by decide +kernel
theorem dX2_between_46 : decode cX2_between 46 = .ok (.goto (-41), 3) := by decide +kernel
theorem dX2_between_49 : decode cX2_between 49 = .ok (.lload_n 3, 1) := by decide +kernel
theorem dX2_between_50 : decode cX2_between 50 = .ok (.lreturn, 1) := by decide +kernel
set_option maxRecDepth 20000 in
theorem ggX2_lackingSome_X2_withSort : GoodIn wsX2_lackingSome wsX2_withSort := goodIn_r _ [5, 6, 7, 8, 9, 10, 11, 12, 13] (by decide +kernel) (by decide +kernel)
set_option maxRecDepth 20000 in
theorem gX2_lackingSome_X2_withSort : GoodIn wsX2_lackingSome (wsV RX2 40 RX2 yX2_withSort wsX2_withSort) := goodIn_app (goodIn_of _ (by decide +kernel)) ggX2_lackingSome_X2_withSort
theorem dX2_lackingSome_0 : decode cX2_lackingSome 0 = .ok (.lconst 0, 1) := by decide +kernel
theorem dX2_lackingSome_1 : decode cX2_lackingSome 1 = .ok (.lstore_n 1, 1) := by decide +kernel
theorem dX2_lackingSome_2 : decode cX2_lackingSome 2 = .ok (.iconst 0, 1) := by decide +kernel
theorem dX2_lackingSome_3 : decode cX2_lackingSome 3 = .ok (.istore_n 3, 1) := by decide +kernel
theorem dX2_lackingSome_4 : decode cX2_lackingSome 4 = .ok (.iload_n 3, 1) := by decide +kernel
theorem dX2_lackingSome_5 : decode cX2_lackingSome 5 = .ok (.iconst 5, 1) := by decide +kernel
theorem dX2_lackingSome_6 : decode cX2_lackingSome 6 = .ok (.if_icmp .ge 19, 3) := by decide +kernel
theorem dX2_lackingSome_9 : decode cX2_lackingSome 9 = .ok (.lload_n 1, 1) := by decide +kernel
theorem dX2_lackingSome_10 : decode cX2_lackingSome 10 = .ok (.aload_n 0, 1) := by decide +kernel
theorem dX2_lackingSome_11 : decode cX2_lackingSome 11 = .ok (.iload_n 3, 1) := by decide +kernel
theorem dX2_lackingSome_12 : decode cX2_lackingSome 12 = .ok (.bipush 10, 2) := by decide +kernel
theorem dX2_lackingSome_14 : decode cX2_lackingSome 14 = .ok (.invokevirtual 40, 3) := by decide +kernel
theorem dX2_lackingSome_17 : decode cX2_lackingSome 17 = .ok (.lor, 1) := by decide +kernel
theorem dX2_lackingSome_18 : decode cX2_lackingSome 18 = .ok (.lstore_n 1, 1) := by decide +kernel
theorem dX2_lackingSome_19 : decode cX2_lackingSome 19 = .ok (.iinc 3 1, 3) := by decide +kernel
theorem dX2_lackingSome_22 : decode cX2_lackingSome 22 = .ok (.goto (-18), 3) := by decide +kernel
theorem dX2_lackingSome_25 : decode cX2_lackingSome 25 = .ok (.lload_n 1, 1) := by decide +kernel
theorem dX2_lackingSome_26 : decode cX2_lackingSome 26 = .ok (.lreturn, 1) := by decide +kernel
set_option maxRecDepth 20000 in
theorem ggX2_driftAbove_J13_bitCount_95d88 : GoodIn wsX2_driftAbove wsJ13_bitCount_95d88 := goodIn_r _ [8, 9, 10, 11] (by decide +kernel) (by decide +kernel)
set_option maxRecDepth 20000 in
theorem gX2_driftAbove_J13_bitCount_95d88 : GoodIn wsX2_driftAbove (va_wsS RX2 44 yJ13_bitCount_95d88 wsJ13_bitCount_95d88) := goodIn_app (goodIn_of _ (by decide +kernel)) ggX2_driftAbove_J13_bitCount_95d88
set_option maxRecDepth 20000 in
theorem ggX2_driftAbove_X2_withSort : GoodIn wsX2_driftAbove wsX2_withSort := goodIn_r _ [16, 17, 18, 19, 20, 21, 22, 23, 24] (by decide +kernel) (by decide +kernel)
set_option maxRecDepth 20000 in
theorem gX2_driftAbove_X2_withSort : GoodIn wsX2_driftAbove (wsV RX2 40 RX2 yX2_withSort wsX2_withSort) := goodIn_app (goodIn_of _ (by decide +kernel)) ggX2_driftAbove_X2_withSort
theorem dX2_driftAbove_0 : decode cX2_driftAbove 0 = .ok (.lload_n 2, 1) := by decide +kernel
theorem dX2_driftAbove_1 : decode cX2_driftAbove 1 = .ok (.invokestatic 44, 3) := by decide +kernel
theorem dX2_driftAbove_4 : decode cX2_driftAbove 4 = .ok (.istore 6, 2) := by decide +kernel
theorem dX2_driftAbove_6 : decode cX2_driftAbove 6 = .ok (.lload 4, 2) := by decide +kernel
theorem dX2_driftAbove_8 : decode cX2_driftAbove 8 = .ok (.invokestatic 44, 3) := by decide +kernel
theorem dX2_driftAbove_11 : decode cX2_driftAbove 11 = .ok (.istore 7, 2) := by decide +kernel
theorem dX2_driftAbove_13 : decode cX2_driftAbove 13 = .ok (.iconst 0, 1) := by decide +kernel
theorem dX2_driftAbove_14 : decode cX2_driftAbove 14 = .ok (.istore 8, 2) := by decide +kernel
theorem dX2_driftAbove_16 : decode cX2_driftAbove 16 = .ok (.iconst 0, 1) := by decide +kernel
theorem dX2_driftAbove_17 : decode cX2_driftAbove 17 = .ok (.istore 9, 2) := by decide +kernel
theorem dX2_driftAbove_19 : decode cX2_driftAbove 19 = .ok (.iload 9, 2) := by decide +kernel
theorem dX2_driftAbove_21 : decode cX2_driftAbove 21 = .ok (.bipush 11, 2) := by decide +kernel
theorem dX2_driftAbove_23 : decode cX2_driftAbove 23 = .ok (.if_icmp .ge 48, 3) := by decide +kernel
theorem dX2_driftAbove_26 : decode cX2_driftAbove 26 = .ok (.aload_n 0, 1) := by decide +kernel
theorem dX2_driftAbove_27 : decode cX2_driftAbove 27 = .ok (.iload_n 1, 1) := by decide +kernel
theorem dX2_driftAbove_28 : decode cX2_driftAbove 28 = .ok (.iload 9, 2) := by decide +kernel
theorem dX2_driftAbove_30 : decode cX2_driftAbove 30 = .ok (.invokevirtual 40, 3) := by decide +kernel
theorem dX2_driftAbove_33 : decode cX2_driftAbove 33 = .ok (.lstore 10, 2) := by decide +kernel
theorem dX2_driftAbove_35 : decode cX2_driftAbove 35 = .ok (.iload 8, 2) := by decide +kernel
theorem dX2_driftAbove_37 : decode cX2_driftAbove 37 = .ok (.lload 10, 2) := by decide +kernel
theorem dX2_driftAbove_39 : decode cX2_driftAbove 39 = .ok (.lload_n 2, 1) := by decide +kernel
theorem dX2_driftAbove_40 : decode cX2_driftAbove 40 = .ok (.land, 1) := by decide +kernel
theorem dX2_driftAbove_41 : decode cX2_driftAbove 41 = .ok (.invokestatic 44, 3) := by decide +kernel
theorem dX2_driftAbove_44 : decode cX2_driftAbove 44 = .ok (.iload 7, 2) := by decide +kernel
theorem dX2_driftAbove_46 : decode cX2_driftAbove 46 = .ok (.imul, 1) := by decide +kernel
theorem dX2_driftAbove_47 : decode cX2_driftAbove 47 = .ok (.lload 10, 2) := by decide +kernel
theorem dX2_driftAbove_49 : decode cX2_driftAbove 49 = .ok (.lload 4, 2) := by decide +kernel
theorem dX2_driftAbove_51 : decode cX2_driftAbove 51 = .ok (.land, 1) := by decide +kernel
theorem dX2_driftAbove_52 : decode cX2_driftAbove 52 = .ok (.invokestatic 44, 3) := by decide +kernel
theorem dX2_driftAbove_55 : decode cX2_driftAbove 55 = .ok (.iload 6, 2) := by decide +kernel
theorem dX2_driftAbove_57 : decode cX2_driftAbove 57 = .ok (.imul, 1) := by decide +kernel
theorem dX2_driftAbove_58 : decode cX2_driftAbove 58 = .ok (.isub, 1) := by decide +kernel
theorem dX2_driftAbove_59 : decode cX2_driftAbove 59 = .ok (.invokestatic 50, 3) := by decide +kernel
theorem dX2_driftAbove_62 : decode cX2_driftAbove 62 = .ok (.iadd, 1) := by decide +kernel
theorem dX2_driftAbove_63 : decode cX2_driftAbove 63 = .ok (.istore 8, 2) := by decide +kernel
theorem dX2_driftAbove_65 : decode cX2_driftAbove 65 = .ok (.iinc 9 1, 3) := by decide +kernel
theorem dX2_driftAbove_68 : decode cX2_driftAbove 68 = .ok (.goto (-49), 3) := by decide +kernel
theorem dX2_driftAbove_71 : decode cX2_driftAbove 71 = .ok (.iload 8, 2) := by decide +kernel
theorem dX2_driftAbove_73 : decode cX2_driftAbove 73 = .ok (.ireturn, 1) := by decide +kernel
set_option maxRecDepth 20000 in
theorem ggX2_placeByDrift_X2_driftAbove : GoodIn wsX2_placeByDrift wsX2_driftAbove := goodIn_r _ [5, 6, 7, 8, 9, 10, 11, 12, 13, 14, 15, 16, 17, 18, 19, 4, 20, 21, 22, 23, 24, 25, 26, 27, 28] (by decide +kernel) (by decide +kernel)
set_option maxRecDepth 20000 in
theorem gX2_placeByDrift_X2_driftAbove : GoodIn wsX2_placeByDrift (wsV RX2 56 RX2 yX2_driftAbove wsX2_driftAbove) := goodIn_app (goodIn_of _ (by decide +kernel)) ggX2_placeByDrift_X2_driftAbove
theorem dX2_placeByDrift_0 : decode cX2_placeByDrift 0 = .ok (.aload_n 0, 1) := by decide +kernel
theorem dX2_placeByDrift_1 : decode cX2_placeByDrift 1 = .ok (.iload_n 1, 1) := by decide +kernel
theorem dX2_placeByDrift_2 : decode cX2_placeByDrift 2 = .ok (.lload_n 2, 1) := by decide +kernel
theorem dX2_placeByDrift_3 : decode cX2_placeByDrift 3 = .ok (.lload 4, 2) := by decide +kernel
theorem dX2_placeByDrift_5 : decode cX2_placeByDrift 5 = .ok (.invokevirtual 56, 3) := by decide +kernel
theorem dX2_placeByDrift_8 : decode cX2_placeByDrift 8 = .ok (.istore 6, 2) := by decide +kernel
theorem dX2_placeByDrift_10 : decode cX2_placeByDrift 10 = .ok (.iconst 0, 1) := by decide +kernel
theorem dX2_placeByDrift_11 : decode cX2_placeByDrift 11 = .ok (.istore 7, 2) := by decide +kernel
theorem dX2_placeByDrift_13 : decode cX2_placeByDrift 13 = .ok (.iconst 0, 1) := by decide +kernel
theorem dX2_placeByDrift_14 : decode cX2_placeByDrift 14 = .ok (.istore 8, 2) := by decide +kernel
theorem dX2_placeByDrift_16 : decode cX2_placeByDrift 16 = .ok (.iload 8, 2) := by decide +kernel
theorem dX2_placeByDrift_18 : decode cX2_placeByDrift 18 = .ok (.iconst 5, 1) := by decide +kernel
theorem dX2_placeByDrift_19 : decode cX2_placeByDrift 19 = .ok (.if_icmp .ge 43, 3) := by decide +kernel
theorem dX2_placeByDrift_22 : decode cX2_placeByDrift 22 = .ok (.aload_n 0, 1) := by decide +kernel
theorem dX2_placeByDrift_23 : decode cX2_placeByDrift 23 = .ok (.iload 8, 2) := by decide +kernel
theorem dX2_placeByDrift_25 : decode cX2_placeByDrift 25 = .ok (.lload_n 2, 1) := by decide +kernel
theorem dX2_placeByDrift_26 : decode cX2_placeByDrift 26 = .ok (.lload 4, 2) := by decide +kernel
theorem dX2_placeByDrift_28 : decode cX2_placeByDrift 28 = .ok (.invokevirtual 56, 3) := by decide +kernel
theorem dX2_placeByDrift_31 : decode cX2_placeByDrift 31 = .ok (.istore 9, 2) := by decide +kernel
theorem dX2_placeByDrift_33 : decode cX2_placeByDrift 33 = .ok (.iload 9, 2) := by decide +kernel
theorem dX2_placeByDrift_35 : decode cX2_placeByDrift 35 = .ok (.iload 6, 2) := by decide +kernel
theorem dX2_placeByDrift_37 : decode cX2_placeByDrift 37 = .ok (.if_icmp .gt 16, 3) := by decide +kernel
theorem dX2_placeByDrift_40 : decode cX2_placeByDrift 40 = .ok (.iload 9, 2) := by decide +kernel
theorem dX2_placeByDrift_42 : decode cX2_placeByDrift 42 = .ok (.iload 6, 2) := by decide +kernel
theorem dX2_placeByDrift_44 : decode cX2_placeByDrift 44 = .ok (.if_icmp .ne 12, 3) := by decide +kernel
theorem dX2_placeByDrift_47 : decode cX2_placeByDrift 47 = .ok (.iload 8, 2) := by decide +kernel
theorem dX2_placeByDrift_49 : decode cX2_placeByDrift 49 = .ok (.iload_n 1, 1) := by decide +kernel
theorem dX2_placeByDrift_50 : decode cX2_placeByDrift 50 = .ok (.if_icmp .ge 6, 3) := by decide +kernel
theorem dX2_placeByDrift_53 : decode cX2_placeByDrift 53 = .ok (.iinc 7 1, 3) := by decide +kernel
theorem dX2_placeByDrift_56 : decode cX2_placeByDrift 56 = .ok (.iinc 8 1, 3) := by decide +kernel
theorem dX2_placeByDrift_59 : decode cX2_placeByDrift 59 = .ok (.goto (-43), 3) := by decide +kernel
theorem dX2_placeByDrift_62 : decode cX2_placeByDrift 62 = .ok (.iload 7, 2) := by decide +kernel
theorem dX2_placeByDrift_64 : decode cX2_placeByDrift 64 = .ok (.ireturn, 1) := by decide +kernel
theorem dX3_init_0 : decode cX3_init 0 = .ok (.aload_n 0, 1) := by decide +kernel
theorem dX3_init_1 : decode cX3_init 1 = .ok (.invokespecial 3, 3) := by decide +kernel
theorem dX3_init_4 : decode cX3_init 4 = .ok (.aload_n 0, 1) := by decide +kernel
theorem dX3_init_5 : decode cX3_init 5 = .ok (.iconst 0, 1) := by decide +kernel
theorem dX3_init_6 : decode cX3_init 6 = .ok (.putfield 9, 3) := by decide +kernel
theorem dX3_init_9 : decode cX3_init 9 = .ok (.aload_n 0, 1) := by decide +kernel
theorem dX3_init_10 : decode cX3_init 10 = .ok (.lconst 0, 1) := by decide +kernel
theorem dX3_init_11 : decode cX3_init 11 = .ok (.putfield 15, 3) := by decide +kernel
theorem dX3_init_14 : decode cX3_init 14 = .ok (.aload_n 0, 1) := by decide +kernel
theorem dX3_init_15 : decode cX3_init 15 = .ok (.sipush 535, 3) := by decide +kernel
theorem dX3_init_18 : decode cX3_init 18 = .ok (.newarray .long, 2) := by decide +kernel
theorem dX3_init_20 : decode cX3_init 20 = .ok (.putfield 19, 3) := by decide +kernel
theorem dX3_init_23 : decode cX3_init 23 = .ok (.aload_n 0, 1) := by decide +kernel
theorem dX3_init_24 : decode cX3_init 24 = .ok (.sipush 535, 3) := by decide +kernel
theorem dX3_init_27 : decode cX3_init 27 = .ok (.newarray .int, 2) := by decide +kernel
theorem dX3_init_29 : decode cX3_init 29 = .ok (.putfield 23, 3) := by decide +kernel
theorem dX3_init_32 : decode cX3_init 32 = .ok (.aload_n 0, 1) := by decide +kernel
theorem dX3_init_33 : decode cX3_init 33 = .ok (.sipush 535, 3) := by decide +kernel
theorem dX3_init_36 : decode cX3_init 36 = .ok (.newarray .int, 2) := by decide +kernel
theorem dX3_init_38 : decode cX3_init 38 = .ok (.putfield 27, 3) := by decide +kernel
theorem dX3_init_41 : decode cX3_init 41 = .ok (.return_, 1) := by decide +kernel
set_option maxRecDepth 20000 in
theorem ggX3_has_X4_isWithin : GoodIn wsX3_has wsX4_isWithin := goodIn_r _ [4] (by decide +kernel) (by decide +kernel)
set_option maxRecDepth 20000 in
theorem gX3_has_X4_isWithin_n30 : GoodIn wsX3_has (wsX4_isWithin) := ggX3_has_X4_isWithin
theorem dX3_has_0 : decode cX3_has 0 = .ok (.iload_n 1, 1) := by decide +kernel
theorem dX3_has_1 : decode cX3_has 1 = .ok (.iconst 0, 1) := by decide +kernel
theorem dX3_has_2 : decode cX3_has 2 = .ok (.aload_n 0, 1) := by decide +kernel
theorem dX3_has_3 : decode cX3_has 3 = .ok (.getfield 9, 3) := by decide +kernel
theorem dX3_has_6 : decode cX3_has 6 = .ok (.iconst 1, 1) := by decide +kernel
theorem dX3_has_7 : decode cX3_has 7 = .ok (.isub, 1) := by decide +kernel
theorem dX3_has_8 : decode cX3_has 8 = .ok (.invokestatic 30, 3) := by decide +kernel
theorem dX3_has_11 : decode cX3_has 11 = .ok (.ireturn, 1) := by decide +kernel
set_option maxRecDepth 20000 in
theorem ggX3_make_J13_bitCount_95d88 : GoodIn wsX3_make wsJ13_bitCount_95d88 := goodIn_r _ [6, 7, 8, 9] (by decide +kernel) (by decide +kernel)
set_option maxRecDepth 20000 in
theorem gX3_make_J13_bitCount_95d88 : GoodIn wsX3_make (va_wsS RX3 40 yJ13_bitCount_95d88 wsJ13_bitCount_95d88) := goodIn_app (goodIn_of _ (by decide +kernel)) ggX3_make_J13_bitCount_95d88
set_option maxRecDepth 20000 in
theorem ggX3_make_X3_insert : GoodIn wsX3_make wsX3_insert := goodIn_r _ [14, 1, 15, 16, 17, 18, 19, 20, 21, 22, 23, 24, 13, 25, 26, 27, 28, 29, 2, 3, 4, 5, 6, 7, 8, 9, 30, 31, 32, 33, 34, 43, 44, 45, 46, 47] (by decide +kernel) (by decide +kernel)
set_option maxRecDepth 20000 in
theorem gX3_make_X3_insert : GoodIn wsX3_make (wsV RX3 46 RX3 yX3_insert wsX3_insert) := goodIn_app (goodIn_of _ (by decide +kernel)) ggX3_make_X3_insert
set_option maxRecDepth 20000 in
theorem ggX3_make_X3_insertPairs : GoodIn wsX3_make wsX3_insertPairs := goodIn_r _ [38, 39, 31, 40, 41, 42, 3, 4, 5, 6, 7, 8, 9, 10, 11, 12, 13, 14, 1, 15, 16, 17, 18, 19, 20, 21, 22, 23, 24, 25, 26, 27, 28, 29, 2, 30, 32, 33, 34, 48, 49, 50, 51, 43, 44, 45, 46, 47] (by decide +kernel) (by decide +kernel)
set_option maxRecDepth 20000 in
theorem gX3_make_X3_insertPairs : GoodIn wsX3_make (wsV RX3 50 RX3 yX3_insertPairs wsX3_insertPairs) := goodIn_app (goodIn_of _ (by decide +kernel)) ggX3_make_X3_insertPairs
theorem dX3_make_0 : decode cX3_make 0 = .ok (.aload_n 0, 1) := by decide +kernel
theorem dX3_make_1 : decode cX3_make 1 = .ok (.iconst 0, 1) := by decide +kernel
theorem dX3_make_2 : decode cX3_make 2 = .ok (.putfield 9, 3) := by decide +kernel
theorem dX3_make_5 : decode cX3_make 5 = .ok (.aload_n 0, 1) := by decide +kernel
theorem dX3_make_6 : decode cX3_make 6 = .ok (.aload_n 1, 1) := by decide +kernel
theorem dX3_make_7 : decode cX3_make 7 = .ok (.getfield 34, 3) := by decide +kernel
theorem dX3_make_10 : decode cX3_make 10 = .ok (.putfield 15, 3) := by decide +kernel
theorem dX3_make_13 : decode cX3_make 13 = .ok (.iconst 0, 1) := by decide +kernel
theorem dX3_make_14 : decode cX3_make 14 = .ok (.istore 4, 2) := by decide +kernel
theorem dX3_make_16 : decode cX3_make 16 = .ok (.iload 4, 2) := by decide +kernel
theorem dX3_make_18 : decode cX3_make 18 = .ok (.bipush 55, 2) := by decide +kernel
theorem dX3_make_20 : decode cX3_make 20 = .ok (.if_icmp .ge 48, 3) := by decide +kernel
theorem dX3_make_23 : decode cX3_make 23 = .ok (.aload_n 1, 1) := by decide +kernel
theorem dX3_make_24 : decode cX3_make 24 = .ok (.getfield 37, 3) := by decide +kernel
theorem dX3_make_27 : decode cX3_make 27 = .ok (.iload 4, 2) := by decide +kernel
theorem dX3_make_29 : decode cX3_make 29 = .ok (.laload, 1) := by decide +kernel
theorem dX3_make_30 : decode cX3_make 30 = .ok (.lstore 5, 2) := by decide +kernel
theorem dX3_make_32 : decode cX3_make 32 = .ok (.lload 5, 2) := by decide +kernel
theorem dX3_make_34 : decode cX3_make 34 = .ok (.invokestatic 40, 3) := by decide +kernel
theorem dX3_make_37 : decode cX3_make 37 = .ok (.iload_n 2, 1) := by decide +kernel
theorem dX3_make_38 : decode cX3_make 38 = .ok (.if_icmp .lt 24, 3) := by decide +kernel
theorem dX3_make_41 : decode cX3_make 41 = .ok (.aload_n 0, 1) := by decide +kernel
theorem dX3_make_42 : decode cX3_make 42 = .ok (.lload 5, 2) := by decide +kernel
theorem dX3_make_44 : decode cX3_make 44 = .ok (.iload 4, 2) := by decide +kernel
theorem dX3_make_46 : decode cX3_make 46 = .ok (.iconst (-1), 1) := by decide +kernel
theorem dX3_make_47 : decode cX3_make 47 = .ok (.invokevirtual 46, 3) := by decide +kernel
theorem dX3_make_50 : decode cX3_make 50 = .ok (.iload_n 3, 1) := by decide +kernel
theorem dX3_make_51 : decode cX3_make 51 = .ok (.ifCond .eq 11, 3) := by decide +kernel
theorem dX3_make_54 : decode cX3_make 54 = .ok (.aload_n 0, 1) := by decide +kernel
theorem dX3_make_55 : decode cX3_make 55 = .ok (.aload_n 1, 1) := by decide +kernel
theorem dX3_make_56 : decode cX3_make 56 = .ok (.iload_n 2, 1) := by decide +kernel
theorem dX3_make_57 : decode cX3_make 57 = .ok (.iload 4, 2) := by decide +kernel
theorem dX3_make_59 : decode cX3_make 59 = .ok (.invokevirtual 50, 3) := by decide +kernel
theorem dX3_make_62 : decode cX3_make 62 = .ok (.iinc 4 1, 3) := by decide +kernel
theorem dX3_make_65 : decode cX3_make 65 = .ok (.goto (-49), 3) := by decide +kernel
theorem dX3_make_68 : decode cX3_make 68 = .ok (.return_, 1) := by decide +kernel
set_option maxRecDepth 20000 in
theorem ggX3_insertPairs_X4_columnOf : GoodIn wsX3_insertPairs wsX4_columnOf := goodIn_r _ [3] (by decide +kernel) (by decide +kernel)
set_option maxRecDepth 20000 in
theorem gX3_insertPairs_X4_columnOf_n54 : GoodIn wsX3_insertPairs (wsX4_columnOf) := ggX3_insertPairs_X4_columnOf
set_option maxRecDepth 20000 in
theorem ggX3_insertPairs_X4_conditionOf : GoodIn wsX3_insertPairs wsX4_conditionOf := goodIn_r _ [5] (by decide +kernel) (by decide +kernel)
set_option maxRecDepth 20000 in
theorem gX3_insertPairs_X4_conditionOf_n58 : GoodIn wsX3_insertPairs (wsX4_conditionOf) := ggX3_insertPairs_X4_conditionOf
set_option maxRecDepth 20000 in
theorem ggX3_insertPairs_J13_bitCount_95d88 : GoodIn wsX3_insertPairs wsJ13_bitCount_95d88 := goodIn_r _ [9, 10, 11, 12] (by decide +kernel) (by decide +kernel)
set_option maxRecDepth 20000 in
theorem gX3_insertPairs_J13_bitCount_95d88 : GoodIn wsX3_insertPairs (va_wsS RX3 40 yJ13_bitCount_95d88 wsJ13_bitCount_95d88) := goodIn_app (goodIn_of _ (by decide +kernel)) ggX3_insertPairs_J13_bitCount_95d88
set_option maxRecDepth 20000 in
theorem ggX3_insertPairs_X3_insert : GoodIn wsX3_insertPairs wsX3_insert := goodIn_r _ [17, 18, 19, 20, 21, 22, 23, 24, 25, 26, 27, 28, 16, 29, 30, 31, 32, 33, 34, 6, 7, 8, 9, 10, 11, 12, 35, 2, 36, 37, 38, 43, 44, 45, 46, 47] (by decide +kernel) (by decide +kernel)
set_option maxRecDepth 20000 in
theorem gX3_insertPairs_X3_insert : GoodIn wsX3_insertPairs (wsV RX3 46 RX3 yX3_insert wsX3_insert) := goodIn_app (goodIn_of _ (by decide +kernel)) ggX3_insertPairs_X3_insert
theorem dX3_insertPairs_0 : decode cX3_insertPairs 0 = .ok (.aload_n 1, 1) := by decide +kernel
theorem dX3_insertPairs_1 : decode cX3_insertPairs 1 = .ok (.getfield 37, 3) := by decide +kernel
theorem dX3_insertPairs_4 : decode cX3_insertPairs 4 = .ok (.iload_n 3, 1) := by decide +kernel
theorem dX3_insertPairs_5 : decode cX3_insertPairs 5 = .ok (.laload, 1) := by decide +kernel
theorem dX3_insertPairs_6 : decode cX3_insertPairs 6 = .ok (.lstore 4, 2) := by decide +kernel
theorem dX3_insertPairs_8 : decode cX3_insertPairs 8 = .ok (.iload_n 3, 1) := by decide +kernel
theorem dX3_insertPairs_9 : decode cX3_insertPairs 9 = .ok (.invokestatic 54, 3) := by decide +kernel
theorem dX3_insertPairs_12 : decode cX3_insertPairs 12 = .ok (.iconst 1, 1) := by decide +kernel
theorem dX3_insertPairs_13 : decode cX3_insertPairs 13 = .ok (.iadd, 1) := by decide +kernel
theorem dX3_insertPairs_14 : decode cX3_insertPairs 14 = .ok (.iconst 0, 1) := by decide +kernel
theorem dX3_insertPairs_15 : decode cX3_insertPairs 15 = .ok (.invokestatic 58, 3) := by decide +kernel
theorem dX3_insertPairs_18 : decode cX3_insertPairs 18 = .ok (.istore 6, 2) := by decide +kernel
theorem dX3_insertPairs_20 : decode cX3_insertPairs 20 = .ok (.iload 6, 2) := by decide +kernel
theorem dX3_insertPairs_22 : decode cX3_insertPairs 22 = .ok (.bipush 55, 2) := by decide +kernel
theorem dX3_insertPairs_24 : decode cX3_insertPairs 24 = .ok (.if_icmp .ge 59, 3) := by decide +kernel
theorem dX3_insertPairs_27 : decode cX3_insertPairs 27 = .ok (.aload_n 1, 1) := by decide +kernel
theorem dX3_insertPairs_28 : decode cX3_insertPairs 28 = .ok (.getfield 37, 3) := by decide +kernel
theorem dX3_insertPairs_31 : decode cX3_insertPairs 31 = .ok (.iload 6, 2) := by decide +kernel
theorem dX3_insertPairs_33 : decode cX3_insertPairs 33 = .ok (.laload, 1) := by decide +kernel
theorem dX3_insertPairs_34 : decode cX3_insertPairs 34 = .ok (.lstore 7, 2) := by decide +kernel
theorem dX3_insertPairs_36 : decode cX3_insertPairs 36 = .ok (.lload 4, 2) := by decide +kernel
theorem dX3_insertPairs_38 : decode cX3_insertPairs 38 = .ok (.lload 7, 2) := by decide +kernel
theorem dX3_insertPairs_40 : decode cX3_insertPairs 40 = .ok (.land, 1) := by decide +kernel
theorem dX3_insertPairs_41 : decode cX3_insertPairs 41 = .ok (.lstore 9, 2) := by decide +kernel
theorem dX3_insertPairs_43 : decode cX3_insertPairs 43 = .ok (.lload 9, 2) := by decide +kernel
theorem dX3_insertPairs_45 : decode cX3_insertPairs 45 = .ok (.invokestatic 40, 3) := by decide +kernel
theorem dX3_insertPairs_48 : decode cX3_insertPairs 48 = .ok (.iload_n 2, 1) := by decide +kernel
theorem dX3_insertPairs_49 : decode cX3_insertPairs 49 = .ok (.if_icmp .lt 28, 3) := by decide +kernel
theorem dX3_insertPairs_52 : decode cX3_insertPairs 52 = .ok (.lload 9, 2) := by decide +kernel
theorem dX3_insertPairs_54 : decode cX3_insertPairs 54 = .ok (.lload 4, 2) := by decide +kernel
theorem dX3_insertPairs_56 : decode cX3_insertPairs 56 = .ok (.lcmp, 1) := by decide +kernel
theorem dX3_insertPairs_57 : decode cX3_insertPairs 57 = .ok (.ifCond .eq 20, 3) := by decide +kernel
theorem dX3_insertPairs_60 : decode cX3_insertPairs 60 = .ok (.lload 9, 2) := by decide +kernel
theorem dX3_insertPairs_62 : decode cX3_insertPairs 62 = .ok (.lload 7, 2) := by decide +kernel
theorem dX3_insertPairs_64 : decode cX3_insertPairs 64 = .ok (.lcmp, 1) := by decide +kernel
theorem dX3_insertPairs_65 : decode cX3_insertPairs 65 = .ok (.ifCond .eq 12, 3) := by decide +kernel
theorem dX3_insertPairs_68 : decode cX3_insertPairs 68 = .ok (.aload_n 0, 1) := by decide +kernel
theorem dX3_insertPairs_69 : decode cX3_insertPairs 69 = .ok (.lload 9, 2) := by decide +kernel
theorem dX3_insertPairs_71 : decode cX3_insertPairs 71 = .ok (.iload_n 3, 1) := by decide +kernel
theorem dX3_insertPairs_72 : decode cX3_insertPairs 72 = .ok (.iload 6, 2) := by decide +kernel
theorem dX3_insertPairs_74 : decode cX3_insertPairs 74 = .ok (.invokevirtual 46, 3) := by decide +kernel
theorem dX3_insertPairs_77 : decode cX3_insertPairs 77 = .ok (.iinc 6 1, 3) := by decide +kernel
theorem dX3_insertPairs_80 : decode cX3_insertPairs 80 = .ok (.goto (-60), 3) := by decide +kernel
theorem dX3_insertPairs_83 : decode cX3_insertPairs 83 = .ok (.return_, 1) := by decide +kernel
set_option maxRecDepth 20000 in
theorem ggX3_insert_X3_placeFor : GoodIn wsX3_insert wsX3_placeFor := goodIn_r _ [13, 1, 2, 14, 15, 16, 12, 17, 18, 19, 20, 21, 22, 23, 24, 25, 26, 27, 28, 29, 30, 31, 32, 33, 34, 35] (by decide +kernel) (by decide +kernel)
set_option maxRecDepth 20000 in
theorem gX3_insert_X3_placeFor : GoodIn wsX3_insert (wsV RX3 62 RX3 yX3_placeFor wsX3_placeFor) := goodIn_app (goodIn_of _ (by decide +kernel)) ggX3_insert_X3_placeFor
theorem dX3_insert_0 : decode cX3_insert 0 = .ok (.aload_n 0, 1) := by decide +kernel
theorem dX3_insert_1 : decode cX3_insert 1 = .ok (.getfield 9, 3) := by decide +kernel
theorem dX3_insert_4 : decode cX3_insert 4 = .ok (.sipush 535, 3) := by decide +kernel
theorem dX3_insert_7 : decode cX3_insert 7 = .ok (.if_icmp .lt 4, 3) := by decide +kernel
theorem dX3_insert_10 : decode cX3_insert 10 = .ok (.return_, 1) := by decide +kernel
theorem dX3_insert_11 : decode cX3_insert 11 = .ok (.aload_n 0, 1) := by decide +kernel
theorem dX3_insert_12 : decode cX3_insert 12 = .ok (.lload_n 1, 1) := by decide +kernel
theorem dX3_insert_13 : decode cX3_insert 13 = .ok (.invokevirtual 62, 3) := by decide +kernel
theorem dX3_insert_16 : decode cX3_insert 16 = .ok (.istore 5, 2) := by decide +kernel
theorem dX3_insert_18 : decode cX3_insert 18 = .ok (.aload_n 0, 1) := by decide +kernel
theorem dX3_insert_19 : decode cX3_insert 19 = .ok (.getfield 19, 3) := by decide +kernel
theorem dX3_insert_22 : decode cX3_insert 22 = .ok (.iload 5, 2) := by decide +kernel
theorem dX3_insert_24 : decode cX3_insert 24 = .ok (.aload_n 0, 1) := by decide +kernel
theorem dX3_insert_25 : decode cX3_insert 25 = .ok (.getfield 19, 3) := by decide +kernel
theorem dX3_insert_28 : decode cX3_insert 28 = .ok (.iload 5, 2) := by decide +kernel
