set_option maxRecDepth 20000 in
theorem gX5_gap_X5_countOf : GoodIn wsX5_gap (va_wsS RX5 93 yX5_countOf wsX5_countOf) := goodIn_app (goodIn_of _ (by decide +kernel)) ggX5_gap_X5_countOf
set_option maxRecDepth 20000 in
theorem ggX5_gap_X5_hitsOf : GoodIn wsX5_gap wsX5_hitsOf := goodIn_r _ [20, 12, 21, 28, 29, 30, 31, 32, 33, 34, 35, 36, 37, 38, 39, 40, 41, 42, 43, 44, 45, 46, 47, 48, 49, 50, 51, 52, 53, 54, 55, 56, 57] (by decide +kernel) (by decide +kernel)
set_option maxRecDepth 20000 in
theorem gX5_gap_X5_hitsOf : GoodIn wsX5_gap (wsV RX5 97 RX5 yX5_hitsOf wsX5_hitsOf) := goodIn_app (goodIn_of _ (by decide +kernel)) ggX5_gap_X5_hitsOf
set_option maxRecDepth 20000 in
theorem ggX5_gap_X5_part : GoodIn wsX5_gap wsX5_part := goodIn_r _ [24, 25, 26, 6, 27] (by decide +kernel) (by decide +kernel)
set_option maxRecDepth 20000 in
theorem gX5_gap_X5_part : GoodIn wsX5_gap (va_wsS RX5 119 yX5_part wsX5_part) := goodIn_app (goodIn_of _ (by decide +kernel)) ggX5_gap_X5_part
theorem dX5_gap_0 : decode cX5_gap 0 = .ok (.aload_n 0, 1) := by decide +kernel
theorem dX5_gap_1 : decode cX5_gap 1 = .ok (.iconst 0, 1) := by decide +kernel
theorem dX5_gap_2 : decode cX5_gap 2 = .ok (.putfield 75, 3) := by decide +kernel
theorem dX5_gap_5 : decode cX5_gap 5 = .ok (.iload_n 1, 1) := by decide +kernel
theorem dX5_gap_6 : decode cX5_gap 6 = .ok (.iconst 0, 1) := by decide +kernel
theorem dX5_gap_7 : decode cX5_gap 7 = .ok (.iconst 4, 1) := by decide +kernel
theorem dX5_gap_8 : decode cX5_gap 8 = .ok (.invokestatic 79, 3) := by decide +kernel
theorem dX5_gap_11 : decode cX5_gap 11 = .ok (.ifCond .ne 7, 3) := by decide +kernel
theorem dX5_gap_14 : decode cX5_gap 14 = .ok (.ldc2_w 115, 3) := by decide +kernel
theorem dX5_gap_17 : decode cX5_gap 17 = .ok (.lreturn, 1) := by decide +kernel
theorem dX5_gap_18 : decode cX5_gap 18 = .ok (.iload_n 2, 1) := by decide +kernel
theorem dX5_gap_19 : decode cX5_gap 19 = .ok (.iconst 0, 1) := by decide +kernel
theorem dX5_gap_20 : decode cX5_gap 20 = .ok (.bipush 10, 2) := by decide +kernel
theorem dX5_gap_22 : decode cX5_gap 22 = .ok (.invokestatic 79, 3) := by decide +kernel
theorem dX5_gap_25 : decode cX5_gap 25 = .ok (.ifCond .eq 23, 3) := by decide +kernel
theorem dX5_gap_28 : decode cX5_gap 28 = .ok (.iload_n 3, 1) := by decide +kernel
theorem dX5_gap_29 : decode cX5_gap 29 = .ok (.iconst 0, 1) := by decide +kernel
theorem dX5_gap_30 : decode cX5_gap 30 = .ok (.bipush 10, 2) := by decide +kernel
theorem dX5_gap_32 : decode cX5_gap 32 = .ok (.invokestatic 79, 3) := by decide +kernel
theorem dX5_gap_35 : decode cX5_gap 35 = .ok (.ifCond .eq 13, 3) := by decide +kernel
theorem dX5_gap_38 : decode cX5_gap 38 = .ok (.iload 4, 2) := by decide +kernel
theorem dX5_gap_40 : decode cX5_gap 40 = .ok (.iconst 0, 1) := by decide +kernel
theorem dX5_gap_41 : decode cX5_gap 41 = .ok (.iconst 1, 1) := by decide +kernel
theorem dX5_gap_42 : decode cX5_gap 42 = .ok (.invokestatic 79, 3) := by decide +kernel
theorem dX5_gap_45 : decode cX5_gap 45 = .ok (.ifCond .ne 7, 3) := by decide +kernel
theorem dX5_gap_48 : decode cX5_gap 48 = .ok (.ldc2_w 117, 3) := by decide +kernel
theorem dX5_gap_51 : decode cX5_gap 51 = .ok (.lreturn, 1) := by decide +kernel
theorem dX5_gap_52 : decode cX5_gap 52 = .ok (.aload_n 0, 1) := by decide +kernel
theorem dX5_gap_53 : decode cX5_gap 53 = .ok (.iload_n 1, 1) := by decide +kernel
theorem dX5_gap_54 : decode cX5_gap 54 = .ok (.iload_n 2, 1) := by decide +kernel
theorem dX5_gap_55 : decode cX5_gap 55 = .ok (.invokevirtual 107, 3) := by decide +kernel
theorem dX5_gap_58 : decode cX5_gap 58 = .ok (.lstore 5, 2) := by decide +kernel
theorem dX5_gap_60 : decode cX5_gap 60 = .ok (.aload_n 0, 1) := by decide +kernel
theorem dX5_gap_61 : decode cX5_gap 61 = .ok (.iload_n 1, 1) := by decide +kernel
theorem dX5_gap_62 : decode cX5_gap 62 = .ok (.iload_n 3, 1) := by decide +kernel
theorem dX5_gap_63 : decode cX5_gap 63 = .ok (.invokevirtual 107, 3) := by decide +kernel
theorem dX5_gap_66 : decode cX5_gap 66 = .ok (.lstore 7, 2) := by decide +kernel
theorem dX5_gap_68 : decode cX5_gap 68 = .ok (.lload 5, 2) := by decide +kernel
theorem dX5_gap_70 : decode cX5_gap 70 = .ok (.lconst 0, 1) := by decide +kernel
theorem dX5_gap_71 : decode cX5_gap 71 = .ok (.lcmp, 1) := by decide +kernel
theorem dX5_gap_72 : decode cX5_gap 72 = .ok (.ifCond .eq 10, 3) := by decide +kernel
theorem dX5_gap_75 : decode cX5_gap 75 = .ok (.lload 7, 2) := by decide +kernel
theorem dX5_gap_77 : decode cX5_gap 77 = .ok (.lconst 0, 1) := by decide +kernel
theorem dX5_gap_78 : decode cX5_gap 78 = .ok (.lcmp, 1) := by decide +kernel
theorem dX5_gap_79 : decode cX5_gap 79 = .ok (.ifCond .ne 10, 3) := by decide +kernel
theorem dX5_gap_82 : decode cX5_gap 82 = .ok (.aload_n 0, 1) := by decide +kernel
theorem dX5_gap_83 : decode cX5_gap 83 = .ok (.iconst 1, 1) := by decide +kernel
theorem dX5_gap_84 : decode cX5_gap 84 = .ok (.putfield 75, 3) := by decide +kernel
theorem dX5_gap_87 : decode cX5_gap 87 = .ok (.lconst 0, 1) := by decide +kernel
theorem dX5_gap_88 : decode cX5_gap 88 = .ok (.lreturn, 1) := by decide +kernel
theorem dX5_gap_89 : decode cX5_gap 89 = .ok (.lload 5, 2) := by decide +kernel
theorem dX5_gap_91 : decode cX5_gap 91 = .ok (.invokestatic 93, 3) := by decide +kernel
theorem dX5_gap_94 : decode cX5_gap 94 = .ok (.i2l, 1) := by decide +kernel
theorem dX5_gap_95 : decode cX5_gap 95 = .ok (.lstore 9, 2) := by decide +kernel
theorem dX5_gap_97 : decode cX5_gap 97 = .ok (.lload 7, 2) := by decide +kernel
theorem dX5_gap_99 : decode cX5_gap 99 = .ok (.invokestatic 93, 3) := by decide +kernel
theorem dX5_gap_102 : decode cX5_gap 102 = .ok (.i2l, 1) := by decide +kernel
theorem dX5_gap_103 : decode cX5_gap 103 = .ok (.lstore 11, 2) := by decide +kernel
theorem dX5_gap_105 : decode cX5_gap 105 = .ok (.aload_n 0, 1) := by decide +kernel
theorem dX5_gap_106 : decode cX5_gap 106 = .ok (.lload 5, 2) := by decide +kernel
theorem dX5_gap_108 : decode cX5_gap 108 = .ok (.invokevirtual 97, 3) := by decide +kernel
theorem dX5_gap_111 : decode cX5_gap 111 = .ok (.i2l, 1) := by decide +kernel
theorem dX5_gap_112 : decode cX5_gap 112 = .ok (.lload 11, 2) := by decide +kernel
theorem dX5_gap_114 : decode cX5_gap 114 = .ok (.lmul, 1) := by decide +kernel
theorem dX5_gap_115 : decode cX5_gap 115 = .ok (.aload_n 0, 1) := by decide +kernel
theorem dX5_gap_116 : decode cX5_gap 116 = .ok (.lload 7, 2) := by decide +kernel
theorem dX5_gap_118 : decode cX5_gap 118 = .ok (.invokevirtual 97, 3) := by decide +kernel
theorem dX5_gap_121 : decode cX5_gap 121 = .ok (.i2l, 1) := by decide +kernel
theorem dX5_gap_122 : decode cX5_gap 122 = .ok (.lload 9, 2) := by decide +kernel
theorem dX5_gap_124 : decode cX5_gap 124 = .ok (.lmul, 1) := by decide +kernel
theorem dX5_gap_125 : decode cX5_gap 125 = .ok (.lsub, 1) := by decide +kernel
theorem dX5_gap_126 : decode cX5_gap 126 = .ok (.lload 9, 2) := by decide +kernel
theorem dX5_gap_128 : decode cX5_gap 128 = .ok (.lload 11, 2) := by decide +kernel
theorem dX5_gap_130 : decode cX5_gap 130 = .ok (.lmul, 1) := by decide +kernel
theorem dX5_gap_131 : decode cX5_gap 131 = .ok (.iload 4, 2) := by decide +kernel
theorem dX5_gap_133 : decode cX5_gap 133 = .ok (.invokestatic 119, 3) := by decide +kernel
theorem dX5_gap_136 : decode cX5_gap 136 = .ok (.lreturn, 1) := by decide +kernel
theorem dX5_isWindow_0 : decode cX5_isWindow 0 = .ok (.iload_n 0, 1) := by decide +kernel
theorem dX5_isWindow_1 : decode cX5_isWindow 1 = .ok (.ifCond .lt 19, 3) := by decide +kernel
theorem dX5_isWindow_4 : decode cX5_isWindow 4 = .ok (.iload_n 0, 1) := by decide +kernel
theorem dX5_isWindow_5 : decode cX5_isWindow 5 = .ok (.iload_n 1, 1) := by decide +kernel
theorem dX5_isWindow_6 : decode cX5_isWindow 6 = .ok (.if_icmp .gt 14, 3) := by decide +kernel
theorem dX5_isWindow_9 : decode cX5_isWindow 9 = .ok (.iload_n 1, 1) := by decide +kernel
theorem dX5_isWindow_10 : decode cX5_isWindow 10 = .ok (.sipush 1000, 3) := by decide +kernel
theorem dX5_isWindow_13 : decode cX5_isWindow 13 = .ok (.if_icmp .gt 7, 3) := by decide +kernel
theorem dX5_isWindow_16 : decode cX5_isWindow 16 = .ok (.iconst 1, 1) := by decide +kernel
theorem dX5_isWindow_17 : decode cX5_isWindow 17 = .ok (.goto 4, 3) := by decide +kernel
theorem dX5_isWindow_20 : decode cX5_isWindow 20 = .ok (.iconst 0, 1) := by decide +kernel
theorem dX5_isWindow_21 : decode cX5_isWindow 21 = .ok (.ireturn, 1) := by decide +kernel
theorem dX5_isIn_0 : decode cX5_isIn 0 = .ok (.aload_n 0, 1) := by decide +kernel
theorem dX5_isIn_1 : decode cX5_isIn 1 = .ok (.getfield 7, 3) := by decide +kernel
theorem dX5_isIn_4 : decode cX5_isIn 4 = .ok (.iload_n 1, 1) := by decide +kernel
theorem dX5_isIn_5 : decode cX5_isIn 5 = .ok (.iaload, 1) := by decide +kernel
theorem dX5_isIn_6 : decode cX5_isIn 6 = .ok (.iload_n 2, 1) := by decide +kernel
theorem dX5_isIn_7 : decode cX5_isIn 7 = .ok (.if_icmp .lt 17, 3) := by decide +kernel
theorem dX5_isIn_10 : decode cX5_isIn 10 = .ok (.aload_n 0, 1) := by decide +kernel
theorem dX5_isIn_11 : decode cX5_isIn 11 = .ok (.getfield 7, 3) := by decide +kernel
theorem dX5_isIn_14 : decode cX5_isIn 14 = .ok (.iload_n 1, 1) := by decide +kernel
theorem dX5_isIn_15 : decode cX5_isIn 15 = .ok (.iaload, 1) := by decide +kernel
theorem dX5_isIn_16 : decode cX5_isIn 16 = .ok (.iload_n 3, 1) := by decide +kernel
theorem dX5_isIn_17 : decode cX5_isIn 17 = .ok (.if_icmp .ge 7, 3) := by decide +kernel
theorem dX5_isIn_20 : decode cX5_isIn 20 = .ok (.iconst 1, 1) := by decide +kernel
theorem dX5_isIn_21 : decode cX5_isIn 21 = .ok (.goto 4, 3) := by decide +kernel
theorem dX5_isIn_24 : decode cX5_isIn 24 = .ok (.iconst 0, 1) := by decide +kernel
theorem dX5_isIn_25 : decode cX5_isIn 25 = .ok (.ireturn, 1) := by decide +kernel
set_option maxRecDepth 20000 in
theorem ggX5_window_X5_isWindow : GoodIn wsX5_window wsX5_isWindow := goodIn_r _ [7] (by decide +kernel) (by decide +kernel)
set_option maxRecDepth 20000 in
theorem gX5_window_X5_isWindow : GoodIn wsX5_window (va_wsS RX5 123 yX5_isWindow wsX5_isWindow) := goodIn_app (goodIn_of _ (by decide +kernel)) ggX5_window_X5_isWindow
set_option maxRecDepth 20000 in
theorem ggX5_window_X5_isIn : GoodIn wsX5_window wsX5_isIn := goodIn_r _ [11, 12, 13, 14, 15, 16, 17, 18, 19, 20, 21, 22, 23, 24, 25, 26, 27, 28, 29, 30, 31, 32, 33, 34, 35, 36, 37, 38, 39, 40, 41, 42] (by decide +kernel) (by decide +kernel)
set_option maxRecDepth 20000 in
theorem gX5_window_X5_isIn : GoodIn wsX5_window (wsV RX5 127 RX5 yX5_isIn wsX5_isIn) := goodIn_app (goodIn_of _ (by decide +kernel)) ggX5_window_X5_isIn
theorem dX5_window_0 : decode cX5_window 0 = .ok (.aload_n 0, 1) := by decide +kernel
theorem dX5_window_1 : decode cX5_window 1 = .ok (.iconst 0, 1) := by decide +kernel
theorem dX5_window_2 : decode cX5_window 2 = .ok (.putfield 75, 3) := by decide +kernel
theorem dX5_window_5 : decode cX5_window 5 = .ok (.iload_n 1, 1) := by decide +kernel
theorem dX5_window_6 : decode cX5_window 6 = .ok (.iload_n 2, 1) := by decide +kernel
theorem dX5_window_7 : decode cX5_window 7 = .ok (.invokestatic 123, 3) := by decide +kernel
theorem dX5_window_10 : decode cX5_window 10 = .ok (.ifCond .ne 6, 3) := by decide +kernel
theorem dX5_window_13 : decode cX5_window 13 = .ok (.ldc 83, 2) := by decide +kernel
theorem dX5_window_15 : decode cX5_window 15 = .ok (.ireturn, 1) := by decide +kernel
theorem dX5_window_16 : decode cX5_window 16 = .ok (.iconst 0, 1) := by decide +kernel
theorem dX5_window_17 : decode cX5_window 17 = .ok (.istore_n 3, 1) := by decide +kernel
theorem dX5_window_18 : decode cX5_window 18 = .ok (.iconst 0, 1) := by decide +kernel
theorem dX5_window_19 : decode cX5_window 19 = .ok (.istore 4, 2) := by decide +kernel
theorem dX5_window_21 : decode cX5_window 21 = .ok (.iload 4, 2) := by decide +kernel
theorem dX5_window_23 : decode cX5_window 23 = .ok (.aload_n 0, 1) := by decide +kernel
theorem dX5_window_24 : decode cX5_window 24 = .ok (.getfield 84, 3) := by decide +kernel
theorem dX5_window_27 : decode cX5_window 27 = .ok (.if_icmp .ge 28, 3) := by decide +kernel
theorem dX5_window_30 : decode cX5_window 30 = .ok (.iload_n 3, 1) := by decide +kernel
theorem dX5_window_31 : decode cX5_window 31 = .ok (.aload_n 0, 1) := by decide +kernel
theorem dX5_window_32 : decode cX5_window 32 = .ok (.iload 4, 2) := by decide +kernel
theorem dX5_window_34 : decode cX5_window 34 = .ok (.iload_n 1, 1) := by decide +kernel
theorem dX5_window_35 : decode cX5_window 35 = .ok (.iload_n 2, 1) := by decide +kernel
theorem dX5_window_36 : decode cX5_window 36 = .ok (.invokevirtual 127, 3) := by decide +kernel
theorem dX5_window_39 : decode cX5_window 39 = .ok (.ifCond .eq 7, 3) := by decide +kernel
theorem dX5_window_42 : decode cX5_window 42 = .ok (.iconst 1, 1) := by decide +kernel
theorem dX5_window_43 : decode cX5_window 43 = .ok (.goto 4, 3) := by decide +kernel
theorem dX5_window_46 : decode cX5_window 46 = .ok (.iconst 0, 1) := by decide +kernel
theorem dX5_window_47 : decode cX5_window 47 = .ok (.iadd, 1) := by decide +kernel
theorem dX5_window_48 : decode cX5_window 48 = .ok (.istore_n 3, 1) := by decide +kernel
theorem dX5_window_49 : decode cX5_window 49 = .ok (.iinc 4 1, 3) := by decide +kernel
theorem dX5_window_52 : decode cX5_window 52 = .ok (.goto (-31), 3) := by decide +kernel
theorem dX5_window_55 : decode cX5_window 55 = .ok (.iload_n 3, 1) := by decide +kernel
theorem dX5_window_56 : decode cX5_window 56 = .ok (.ireturn, 1) := by decide +kernel
set_option maxRecDepth 20000 in
theorem ggX5_counts_X5_isIn : GoodIn wsX5_counts wsX5_isIn := goodIn_r _ [11, 12, 13, 14, 15, 16, 17, 18, 19, 20, 21, 22, 23, 24, 25, 26, 27, 28, 29, 30, 31, 32, 33, 34, 35, 36, 37, 38, 39, 40, 41, 42] (by decide +kernel) (by decide +kernel)
set_option maxRecDepth 20000 in
theorem gX5_counts_X5_isIn : GoodIn wsX5_counts (wsV RX5 127 RX5 yX5_isIn wsX5_isIn) := goodIn_app (goodIn_of _ (by decide +kernel)) ggX5_counts_X5_isIn
theorem dX5_counts_0 : decode cX5_counts 0 = .ok (.aload_n 0, 1) := by decide +kernel
theorem dX5_counts_1 : decode cX5_counts 1 = .ok (.iconst 0, 1) := by decide +kernel
theorem dX5_counts_2 : decode cX5_counts 2 = .ok (.putfield 130, 3) := by decide +kernel
theorem dX5_counts_5 : decode cX5_counts 5 = .ok (.aload_n 0, 1) := by decide +kernel
theorem dX5_counts_6 : decode cX5_counts 6 = .ok (.iconst 0, 1) := by decide +kernel
theorem dX5_counts_7 : decode cX5_counts 7 = .ok (.putfield 133, 3) := by decide +kernel
theorem dX5_counts_10 : decode cX5_counts 10 = .ok (.iconst 0, 1) := by decide +kernel
theorem dX5_counts_11 : decode cX5_counts 11 = .ok (.istore 6, 2) := by decide +kernel
theorem dX5_counts_13 : decode cX5_counts 13 = .ok (.iload 6, 2) := by decide +kernel
theorem dX5_counts_15 : decode cX5_counts 15 = .ok (.bipush 11, 2) := by decide +kernel
theorem dX5_counts_17 : decode cX5_counts 17 = .ok (.if_icmp .ge 25, 3) := by decide +kernel
theorem dX5_counts_20 : decode cX5_counts 20 = .ok (.aload_n 0, 1) := by decide +kernel
theorem dX5_counts_21 : decode cX5_counts 21 = .ok (.getfield 42, 3) := by decide +kernel
theorem dX5_counts_24 : decode cX5_counts 24 = .ok (.iload 6, 2) := by decide +kernel
theorem dX5_counts_26 : decode cX5_counts 26 = .ok (.iconst 0, 1) := by decide +kernel
theorem dX5_counts_27 : decode cX5_counts 27 = .ok (.iastore, 1) := by decide +kernel
theorem dX5_counts_28 : decode cX5_counts 28 = .ok (.aload_n 0, 1) := by decide +kernel
theorem dX5_counts_29 : decode cX5_counts 29 = .ok (.getfield 45, 3) := by decide +kernel
theorem dX5_counts_32 : decode cX5_counts 32 = .ok (.iload 6, 2) := by decide +kernel
theorem dX5_counts_34 : decode cX5_counts 34 = .ok (.iconst 0, 1) := by decide +kernel
theorem dX5_counts_35 : decode cX5_counts 35 = .ok (.iastore, 1) := by decide +kernel
theorem dX5_counts_36 : decode cX5_counts 36 = .ok (.iinc 6 1, 3) := by decide +kernel
theorem dX5_counts_39 : decode cX5_counts 39 = .ok (.goto (-26), 3) := by decide +kernel
theorem dX5_counts_42 : decode cX5_counts 42 = .ok (.iconst 0, 1) := by decide +kernel
theorem dX5_counts_43 : decode cX5_counts 43 = .ok (.istore 6, 2) := by decide +kernel
theorem dX5_counts_45 : decode cX5_counts 45 = .ok (.iload 6, 2) := by decide +kernel
theorem dX5_counts_47 : decode cX5_counts 47 = .ok (.aload_n 0, 1) := by decide +kernel
theorem dX5_counts_48 : decode cX5_counts 48 = .ok (.getfield 84, 3) := by decide +kernel
theorem dX5_counts_51 : decode cX5_counts 51 = .ok (.if_icmp .ge 88, 3) := by decide +kernel
theorem dX5_counts_54 : decode cX5_counts 54 = .ok (.aload_n 0, 1) := by decide +kernel
theorem dX5_counts_55 : decode cX5_counts 55 = .ok (.getfield 17, 3) := by decide +kernel
theorem dX5_counts_58 : decode cX5_counts 58 = .ok (.iconst 5, 1) := by decide +kernel
theorem dX5_counts_59 : decode cX5_counts 59 = .ok (.iload 6, 2) := by decide +kernel
theorem dX5_counts_61 : decode cX5_counts 61 = .ok (.imul, 1) := by decide +kernel
theorem dX5_counts_62 : decode cX5_counts 62 = .ok (.iload_n 1, 1) := by decide +kernel
theorem dX5_counts_63 : decode cX5_counts 63 = .ok (.iadd, 1) := by decide +kernel
theorem dX5_counts_64 : decode cX5_counts 64 = .ok (.iaload, 1) := by decide +kernel
theorem dX5_counts_65 : decode cX5_counts 65 = .ok (.istore 7, 2) := by decide +kernel
theorem dX5_counts_67 : decode cX5_counts 67 = .ok (.aload_n 0, 1) := by decide +kernel
theorem dX5_counts_68 : decode cX5_counts 68 = .ok (.iload 6, 2) := by decide +kernel
theorem dX5_counts_70 : decode cX5_counts 70 = .ok (.iload_n 2, 1) := by decide +kernel
theorem dX5_counts_71 : decode cX5_counts 71 = .ok (.iload_n 3, 1) := by decide +kernel
theorem dX5_counts_72 : decode cX5_counts 72 = .ok (.invokevirtual 127, 3) := by decide +kernel
theorem dX5_counts_75 : decode cX5_counts 75 = .ok (.ifCond .eq 24, 3) := by decide +kernel
theorem dX5_counts_78 : decode cX5_counts 78 = .ok (.aload_n 0, 1) := by decide +kernel
theorem dX5_counts_79 : decode cX5_counts 79 = .ok (.getfield 42, 3) := by decide +kernel
theorem dX5_counts_82 : decode cX5_counts 82 = .ok (.iload 7, 2) := by decide +kernel
theorem dX5_counts_84 : decode cX5_counts 84 = .ok (.dup2, 1) := by decide +kernel
theorem dX5_counts_85 : decode cX5_counts 85 = .ok (.iaload, 1) := by decide +kernel
theorem dX5_counts_86 : decode cX5_counts 86 = .ok (.iconst 1, 1) := by decide +kernel
theorem dX5_counts_87 : decode cX5_counts 87 = .ok (.iadd, 1) := by decide +kernel
theorem dX5_counts_88 : decode cX5_counts 88 = .ok (.iastore, 1) := by decide +kernel
theorem dX5_counts_89 : decode cX5_counts 89 = .ok (.aload_n 0, 1) := by decide +kernel
theorem dX5_counts_90 : decode cX5_counts 90 = .ok (.dup, 1) := by decide +kernel
theorem dX5_counts_91 : decode cX5_counts 91 = .ok (.getfield 130, 3) := by decide +kernel
theorem dX5_counts_94 : decode cX5_counts 94 = .ok (.iconst 1, 1) := by decide +kernel
theorem dX5_counts_95 : decode cX5_counts 95 = .ok (.iadd, 1) := by decide +kernel
theorem dX5_counts_96 : decode cX5_counts 96 = .ok (.putfield 130, 3) := by decide +kernel
theorem dX5_counts_99 : decode cX5_counts 99 = .ok (.aload_n 0, 1) := by decide +kernel
theorem dX5_counts_100 : decode cX5_counts 100 = .ok (.iload 6, 2) := by decide +kernel
theorem dX5_counts_102 : decode cX5_counts 102 = .ok (.iload 4, 2) := by decide +kernel
theorem dX5_counts_104 : decode cX5_counts 104 = .ok (.iload 5, 2) := by decide +kernel
theorem dX5_counts_106 : decode cX5_counts 106 = .ok (.invokevirtual 127, 3) := by decide +kernel
theorem dX5_counts_109 : decode cX5_counts 109 = .ok (.ifCond .eq 24, 3) := by decide +kernel
theorem dX5_counts_112 : decode cX5_counts 112 = .ok (.aload_n 0, 1) := by decide +kernel
theorem dX5_counts_113 : decode cX5_counts 113 = .ok (.getfield 45, 3) := by decide +kernel
theorem dX5_counts_116 : decode cX5_counts 116 = .ok (.iload 7, 2) := by decide +kernel
theorem dX5_counts_118 : decode cX5_counts 118 = .ok (.dup2, 1) := by decide +kernel
theorem dX5_counts_119 : decode cX5_counts 119 = .ok (.iaload, 1) := by decide +kernel
theorem dX5_counts_120 : decode cX5_counts 120 = .ok (.iconst 1, 1) := by decide +kernel
theorem dX5_counts_121 : decode cX5_counts 121 = .ok (.iadd, 1) := by decide +kernel
theorem dX5_counts_122 : decode cX5_counts 122 = .ok (.iastore, 1) := by decide +kernel
theorem dX5_counts_123 : decode cX5_counts 123 = .ok (.aload_n 0, 1) := by decide +kernel
theorem dX5_counts_124 : decode cX5_counts 124 = .ok (.dup, 1) := by decide +kernel
theorem dX5_counts_125 : decode cX5_counts 125 = .ok (.getfield 133, 3) := by decide +kernel
theorem dX5_counts_128 : decode cX5_counts 128 = .ok (.iconst 1, 1) := by decide +kernel
theorem dX5_counts_129 : decode cX5_counts 129 = .ok (.iadd, 1) := by decide +kernel
theorem dX5_counts_130 : decode cX5_counts 130 = .ok (.putfield 133, 3) := by decide +kernel
theorem dX5_counts_133 : decode cX5_counts 133 = .ok (.iinc 6 1, 3) := by decide +kernel
theorem dX5_counts_136 : decode cX5_counts 136 = .ok (.goto (-91), 3) := by decide +kernel
theorem dX5_counts_139 : decode cX5_counts 139 = .ok (.return_, 1) := by decide +kernel
theorem dX5_drifts_0 : decode cX5_drifts 0 = .ok (.aload_n 0, 1) := by decide +kernel
theorem dX5_drifts_1 : decode cX5_drifts 1 = .ok (.getfield 130, 3) := by decide +kernel
theorem dX5_drifts_4 : decode cX5_drifts 4 = .ok (.ifCond .eq 10, 3) := by decide +kernel
theorem dX5_drifts_7 : decode cX5_drifts 7 = .ok (.aload_n 0, 1) := by decide +kernel
theorem dX5_drifts_8 : decode cX5_drifts 8 = .ok (.getfield 133, 3) := by decide +kernel
theorem dX5_drifts_11 : decode cX5_drifts 11 = .ok (.ifCond .ne 5, 3) := by decide +kernel
theorem dX5_drifts_14 : decode cX5_drifts 14 = .ok (.iconst 0, 1) := by decide +kernel
theorem dX5_drifts_15 : decode cX5_drifts 15 = .ok (.ireturn, 1) := by decide +kernel
theorem dX5_drifts_16 : decode cX5_drifts 16 = .ok (.aload_n 0, 1) := by decide +kernel
theorem dX5_drifts_17 : decode cX5_drifts 17 = .ok (.lconst 0, 1) := by decide +kernel
theorem dX5_drifts_18 : decode cX5_drifts 18 = .ok (.putfield 136, 3) := by decide +kernel
theorem dX5_drifts_21 : decode cX5_drifts 21 = .ok (.iconst 0, 1) := by decide +kernel
theorem dX5_drifts_22 : decode cX5_drifts 22 = .ok (.istore_n 1, 1) := by decide +kernel
theorem dX5_drifts_23 : decode cX5_drifts 23 = .ok (.iload_n 1, 1) := by decide +kernel
theorem dX5_drifts_24 : decode cX5_drifts 24 = .ok (.bipush 11, 2) := by decide +kernel
theorem dX5_drifts_26 : decode cX5_drifts 26 = .ok (.if_icmp .ge 58, 3) := by decide +kernel
theorem dX5_drifts_29 : decode cX5_drifts 29 = .ok (.aload_n 0, 1) := by decide +kernel
theorem dX5_drifts_30 : decode cX5_drifts 30 = .ok (.getfield 42, 3) := by decide +kernel
theorem dX5_drifts_33 : decode cX5_drifts 33 = .ok (.iload_n 1, 1) := by decide +kernel
theorem dX5_drifts_34 : decode cX5_drifts 34 = .ok (.iaload, 1) := by decide +kernel
theorem dX5_drifts_35 : decode cX5_drifts 35 = .ok (.i2l, 1) := by decide +kernel
theorem dX5_drifts_36 : decode cX5_drifts 36 = .ok (.aload_n 0, 1) := by decide +kernel
theorem dX5_drifts_37 : decode cX5_drifts 37 = .ok (.getfield 133, 3) := by decide +kernel
theorem dX5_drifts_40 : decode cX5_drifts 40 = .ok (.i2l, 1) := by decide +kernel
theorem dX5_drifts_41 : decode cX5_drifts 41 = .ok (.lmul, 1) := by decide +kernel
theorem dX5_drifts_42 : decode cX5_drifts 42 = .ok (.aload_n 0, 1) := by decide +kernel
theorem dX5_drifts_43 : decode cX5_drifts 43 = .ok (.getfield 45, 3) := by decide +kernel
theorem dX5_drifts_46 : decode cX5_drifts 46 = .ok (.iload_n 1, 1) := by decide +kernel
theorem dX5_drifts_47 : decode cX5_drifts 47 = .ok (.iaload, 1) := by decide +kernel
theorem dX5_drifts_48 : decode cX5_drifts 48 = .ok (.i2l, 1) := by decide +kernel
theorem dX5_drifts_49 : decode cX5_drifts 49 = .ok (.aload_n 0, 1) := by decide +kernel
theorem dX5_drifts_50 : decode cX5_drifts 50 = .ok (.getfield 130, 3) := by decide +kernel
theorem dX5_drifts_53 : decode cX5_drifts 53 = .ok (.i2l, 1) := by decide +kernel
theorem dX5_drifts_54 : decode cX5_drifts 54 = .ok (.lmul, 1) := by decide +kernel
theorem dX5_drifts_55 : decode cX5_drifts 55 = .ok (.lsub, 1) := by decide +kernel
theorem dX5_drifts_56 : decode cX5_drifts 56 = .ok (.lstore_n 2, 1) := by decide +kernel
theorem dX5_drifts_57 : decode cX5_drifts 57 = .ok (.aload_n 0, 1) := by decide +kernel
theorem dX5_drifts_58 : decode cX5_drifts 58 = .ok (.dup, 1) := by decide +kernel
theorem dX5_drifts_59 : decode cX5_drifts 59 = .ok (.getfield 136, 3) := by decide +kernel
theorem dX5_drifts_62 : decode cX5_drifts 62 = .ok (.lload_n 2, 1) := by decide +kernel
theorem dX5_drifts_63 : decode cX5_drifts 63 = .ok (.lconst 0, 1) := by decide +kernel
theorem dX5_drifts_64 : decode cX5_drifts 64 = .ok (.lcmp, 1) := by decide +kernel
theorem dX5_drifts_65 : decode cX5_drifts 65 = .ok (.ifCond .ge 8, 3) := by decide +kernel
theorem dX5_drifts_68 : decode cX5_drifts 68 = .ok (.lload_n 2, 1) := by decide +kernel
theorem dX5_drifts_69 : decode cX5_drifts 69 = .ok (.lneg, 1) := by decide +kernel
theorem dX5_drifts_70 : decode cX5_drifts 70 = .ok (.goto 4, 3) := by decide +kernel
theorem dX5_drifts_73 : decode cX5_drifts 73 = .ok (.lload_n 2, 1) := by decide +kernel
theorem dX5_drifts_74 : decode cX5_drifts 74 = .ok (.ladd, 1) := by decide +kernel
theorem dX5_drifts_75 : decode cX5_drifts 75 = .ok (.putfield 136, 3) := by decide +kernel
theorem dX5_drifts_78 : decode cX5_drifts 78 = .ok (.iinc 1 1, 3) := by decide +kernel
theorem dX5_drifts_81 : decode cX5_drifts 81 = .ok (.goto (-58), 3) := by decide +kernel
theorem dX5_drifts_84 : decode cX5_drifts 84 = .ok (.aload_n 0, 1) := by decide +kernel
theorem dX5_drifts_85 : decode cX5_drifts 85 = .ok (.ldc2_w 140, 3) := by decide +kernel
theorem dX5_drifts_88 : decode cX5_drifts 88 = .ok (.aload_n 0, 1) := by decide +kernel
theorem dX5_drifts_89 : decode cX5_drifts 89 = .ok (.getfield 130, 3) := by decide +kernel
theorem dX5_drifts_92 : decode cX5_drifts 92 = .ok (.i2l, 1) := by decide +kernel
theorem dX5_drifts_93 : decode cX5_drifts 93 = .ok (.lmul, 1) := by decide +kernel
theorem dX5_drifts_94 : decode cX5_drifts 94 = .ok (.aload_n 0, 1) := by decide +kernel
theorem dX5_drifts_95 : decode cX5_drifts 95 = .ok (.getfield 133, 3) := by decide +kernel
theorem dX5_drifts_98 : decode cX5_drifts 98 = .ok (.i2l, 1) := by decide +kernel
theorem dX5_drifts_99 : decode cX5_drifts 99 = .ok (.lmul, 1) := by decide +kernel
theorem dX5_drifts_100 : decode cX5_drifts 100 = .ok (.putfield 142, 3) := by decide +kernel
theorem dX5_drifts_103 : decode cX5_drifts 103 = .ok (.iconst 1, 1) := by decide +kernel
theorem dX5_drifts_104 : decode cX5_drifts 104 = .ok (.ireturn, 1) := by decide +kernel
set_option maxRecDepth 20000 in
theorem ggX5_areWindows_X5_isWindow : GoodIn wsX5_areWindows wsX5_isWindow := goodIn_r _ [4] (by decide +kernel) (by decide +kernel)
set_option maxRecDepth 20000 in
theorem gX5_areWindows_X5_isWindow : GoodIn wsX5_areWindows (va_wsS RX5 123 yX5_isWindow wsX5_isWindow) := goodIn_app (goodIn_of _ (by decide +kernel)) ggX5_areWindows_X5_isWindow
theorem dX5_areWindows_0 : decode cX5_areWindows 0 = .ok (.iload_n 0, 1) := by decide +kernel
theorem dX5_areWindows_1 : decode cX5_areWindows 1 = .ok (.iload_n 1, 1) := by decide +kernel
theorem dX5_areWindows_2 : decode cX5_areWindows 2 = .ok (.invokestatic 123, 3) := by decide +kernel
theorem dX5_areWindows_5 : decode cX5_areWindows 5 = .ok (.ifCond .eq 15, 3) := by decide +kernel
theorem dX5_areWindows_8 : decode cX5_areWindows 8 = .ok (.iload_n 1, 1) := by decide +kernel
theorem dX5_areWindows_9 : decode cX5_areWindows 9 = .ok (.iload_n 2, 1) := by decide +kernel
theorem dX5_areWindows_10 : decode cX5_areWindows 10 = .ok (.invokestatic 123, 3) := by decide +kernel
theorem dX5_areWindows_13 : decode cX5_areWindows 13 = .ok (.ifCond .eq 7, 3) := by decide +kernel
theorem dX5_areWindows_16 : decode cX5_areWindows 16 = .ok (.iconst 1, 1) := by decide +kernel
theorem dX5_areWindows_17 : decode cX5_areWindows 17 = .ok (.goto 4, 3) := by decide +kernel
theorem dX5_areWindows_20 : decode cX5_areWindows 20 = .ok (.iconst 0, 1) := by decide +kernel
theorem dX5_areWindows_21 : decode cX5_areWindows 21 = .ok (.ireturn, 1) := by decide +kernel
set_option maxRecDepth 20000 in
theorem ggX5_drift_X5_in : GoodIn wsX5_drift wsX5_in := goodIn_r _ [9] (by decide +kernel) (by decide +kernel)
set_option maxRecDepth 20000 in
theorem gX5_drift_X5_in : GoodIn wsX5_drift (va_wsS RX5 79 yX5_in wsX5_in) := goodIn_app (goodIn_of _ (by decide +kernel)) ggX5_drift_X5_in
set_option maxRecDepth 20000 in
theorem ggX5_drift_X5_areWindows : GoodIn wsX5_drift wsX5_areWindows := goodIn_r _ [12, 13, 14, 8, 15] (by decide +kernel) (by decide +kernel)
set_option maxRecDepth 20000 in
theorem gX5_drift_X5_areWindows : GoodIn wsX5_drift (va_wsS RX5 145 yX5_areWindows wsX5_areWindows) := goodIn_app (goodIn_of _ (by decide +kernel)) ggX5_drift_X5_areWindows
set_option maxRecDepth 20000 in
theorem ggX5_drift_X5_counts : GoodIn wsX5_drift wsX5_counts := goodIn_r _ [19, 20, 21, 22, 23, 24, 25, 26, 27, 28, 8, 29, 30, 42, 43, 44, 45, 46, 47, 48, 49, 50, 51, 52, 53, 54, 55, 56, 57, 58, 59, 60, 61, 62, 63, 64, 65, 66, 67, 68, 69, 70, 71] (by decide +kernel) (by decide +kernel)
set_option maxRecDepth 20000 in
theorem gX5_drift_X5_counts : GoodIn wsX5_drift (wsV RX5 148 RX5 yX5_counts wsX5_counts) := goodIn_app (goodIn_of _ (by decide +kernel)) ggX5_drift_X5_counts
set_option maxRecDepth 20000 in
theorem ggX5_drift_X5_drifts : GoodIn wsX5_drift wsX5_drifts := goodIn_r _ [34, 20, 21, 4, 22, 23, 35, 5, 42, 43, 44, 45, 46, 47, 48, 49, 50, 51, 52, 53, 54, 55, 56, 57, 58, 59, 60, 61, 62, 63, 64, 65, 66, 67, 68, 69, 70, 71] (by decide +kernel) (by decide +kernel)
set_option maxRecDepth 20000 in
theorem gX5_drift_X5_drifts : GoodIn wsX5_drift (wsV RX5 152 RX5 yX5_drifts wsX5_drifts) := goodIn_app (goodIn_of _ (by decide +kernel)) ggX5_drift_X5_drifts
set_option maxRecDepth 20000 in
theorem ggX5_drift_X5_part : GoodIn wsX5_drift wsX5_part := goodIn_r _ [38, 39, 40, 8, 41] (by decide +kernel) (by decide +kernel)
set_option maxRecDepth 20000 in
theorem gX5_drift_X5_part : GoodIn wsX5_drift (va_wsS RX5 119 yX5_part wsX5_part) := goodIn_app (goodIn_of _ (by decide +kernel)) ggX5_drift_X5_part
theorem dX5_drift_0 : decode cX5_drift 0 = .ok (.aload_n 0, 1) := by decide +kernel
theorem dX5_drift_1 : decode cX5_drift 1 = .ok (.iconst 0, 1) := by decide +kernel
theorem dX5_drift_2 : decode cX5_drift 2 = .ok (.putfield 75, 3) := by decide +kernel
theorem dX5_drift_5 : decode cX5_drift 5 = .ok (.iload_n 1, 1) := by decide +kernel
theorem dX5_drift_6 : decode cX5_drift 6 = .ok (.iconst 0, 1) := by decide +kernel
theorem dX5_drift_7 : decode cX5_drift 7 = .ok (.iconst 4, 1) := by decide +kernel
theorem dX5_drift_8 : decode cX5_drift 8 = .ok (.invokestatic 79, 3) := by decide +kernel
theorem dX5_drift_11 : decode cX5_drift 11 = .ok (.ifCond .ne 7, 3) := by decide +kernel
theorem dX5_drift_14 : decode cX5_drift 14 = .ok (.ldc2_w 115, 3) := by decide +kernel
theorem dX5_drift_17 : decode cX5_drift 17 = .ok (.lreturn, 1) := by decide +kernel
theorem dX5_drift_18 : decode cX5_drift 18 = .ok (.iload_n 2, 1) := by decide +kernel
theorem dX5_drift_19 : decode cX5_drift 19 = .ok (.iload_n 3, 1) := by decide +kernel
theorem dX5_drift_20 : decode cX5_drift 20 = .ok (.iload 4, 2) := by decide +kernel
theorem dX5_drift_22 : decode cX5_drift 22 = .ok (.invokestatic 145, 3) := by decide +kernel
theorem dX5_drift_25 : decode cX5_drift 25 = .ok (.ifCond .eq 13, 3) := by decide +kernel
theorem dX5_drift_28 : decode cX5_drift 28 = .ok (.iload 5, 2) := by decide +kernel
theorem dX5_drift_30 : decode cX5_drift 30 = .ok (.iconst 0, 1) := by decide +kernel
theorem dX5_drift_31 : decode cX5_drift 31 = .ok (.iconst 1, 1) := by decide +kernel
theorem dX5_drift_32 : decode cX5_drift 32 = .ok (.invokestatic 79, 3) := by decide +kernel
theorem dX5_drift_35 : decode cX5_drift 35 = .ok (.ifCond .ne 7, 3) := by decide +kernel
theorem dX5_drift_38 : decode cX5_drift 38 = .ok (.ldc2_w 117, 3) := by decide +kernel
theorem dX5_drift_41 : decode cX5_drift 41 = .ok (.lreturn, 1) := by decide +kernel
theorem dX5_drift_42 : decode cX5_drift 42 = .ok (.aload_n 0, 1) := by decide +kernel
theorem dX5_drift_43 : decode cX5_drift 43 = .ok (.iload_n 1, 1) := by decide +kernel
theorem dX5_drift_44 : decode cX5_drift 44 = .ok (.iload_n 2, 1) := by decide +kernel
theorem dX5_drift_45 : decode cX5_drift 45 = .ok (.iload_n 3, 1) := by decide +kernel
theorem dX5_drift_46 : decode cX5_drift 46 = .ok (.iload_n 3, 1) := by decide +kernel
theorem dX5_drift_47 : decode cX5_drift 47 = .ok (.iload 4, 2) := by decide +kernel
theorem dX5_drift_49 : decode cX5_drift 49 = .ok (.invokevirtual 148, 3) := by decide +kernel
theorem dX5_drift_52 : decode cX5_drift 52 = .ok (.aload_n 0, 1) := by decide +kernel
theorem dX5_drift_53 : decode cX5_drift 53 = .ok (.invokevirtual 152, 3) := by decide +kernel
theorem dX5_drift_56 : decode cX5_drift 56 = .ok (.ifCond .ne 10, 3) := by decide +kernel
theorem dX5_drift_59 : decode cX5_drift 59 = .ok (.aload_n 0, 1) := by decide +kernel
theorem dX5_drift_60 : decode cX5_drift 60 = .ok (.iconst 1, 1) := by decide +kernel
theorem dX5_drift_61 : decode cX5_drift 61 = .ok (.putfield 75, 3) := by decide +kernel
theorem dX5_drift_64 : decode cX5_drift 64 = .ok (.lconst 0, 1) := by decide +kernel
theorem dX5_drift_65 : decode cX5_drift 65 = .ok (.lreturn, 1) := by decide +kernel
theorem dX5_drift_66 : decode cX5_drift 66 = .ok (.aload_n 0, 1) := by decide +kernel
theorem dX5_drift_67 : decode cX5_drift 67 = .ok (.getfield 136, 3) := by decide +kernel
theorem dX5_drift_70 : decode cX5_drift 70 = .ok (.aload_n 0, 1) := by decide +kernel
theorem dX5_drift_71 : decode cX5_drift 71 = .ok (.getfield 142, 3) := by decide +kernel
theorem dX5_drift_74 : decode cX5_drift 74 = .ok (.iload 5, 2) := by decide +kernel
theorem dX5_drift_76 : decode cX5_drift 76 = .ok (.invokestatic 119, 3) := by decide +kernel
theorem dX5_drift_79 : decode cX5_drift 79 = .ok (.lreturn, 1) := by decide +kernel
theorem dX5_riseOf_0 : decode cX5_riseOf 0 = .ok (.iconst 0, 1) := by decide +kernel
theorem dX5_riseOf_1 : decode cX5_riseOf 1 = .ok (.istore_n 1, 1) := by decide +kernel
theorem dX5_riseOf_2 : decode cX5_riseOf 2 = .ok (.iconst 0, 1) := by decide +kernel
theorem dX5_riseOf_3 : decode cX5_riseOf 3 = .ok (.istore_n 2, 1) := by decide +kernel
theorem dX5_riseOf_4 : decode cX5_riseOf 4 = .ok (.iload_n 2, 1) := by decide +kernel
theorem dX5_riseOf_5 : decode cX5_riseOf 5 = .ok (.bipush 10, 2) := by decide +kernel
theorem dX5_riseOf_7 : decode cX5_riseOf 7 = .ok (.if_icmp .ge 59, 3) := by decide +kernel
theorem dX5_riseOf_10 : decode cX5_riseOf 10 = .ok (.iconst 0, 1) := by decide +kernel
theorem dX5_riseOf_11 : decode cX5_riseOf 11 = .ok (.istore_n 3, 1) := by decide +kernel
theorem dX5_riseOf_12 : decode cX5_riseOf 12 = .ok (.iload_n 3, 1) := by decide +kernel
theorem dX5_riseOf_13 : decode cX5_riseOf 13 = .ok (.bipush 10, 2) := by decide +kernel
theorem dX5_riseOf_15 : decode cX5_riseOf 15 = .ok (.if_icmp .ge 45, 3) := by decide +kernel
theorem dX5_riseOf_18 : decode cX5_riseOf 18 = .ok (.iload_n 1, 1) := by decide +kernel
theorem dX5_riseOf_19 : decode cX5_riseOf 19 = .ok (.aload_n 0, 1) := by decide +kernel
theorem dX5_riseOf_20 : decode cX5_riseOf 20 = .ok (.getfield 42, 3) := by decide +kernel
theorem dX5_riseOf_23 : decode cX5_riseOf 23 = .ok (.iload_n 2, 1) := by decide +kernel
theorem dX5_riseOf_24 : decode cX5_riseOf 24 = .ok (.iaload, 1) := by decide +kernel
theorem dX5_riseOf_25 : decode cX5_riseOf 25 = .ok (.aload_n 0, 1) := by decide +kernel
theorem dX5_riseOf_26 : decode cX5_riseOf 26 = .ok (.getfield 45, 3) := by decide +kernel
theorem dX5_riseOf_29 : decode cX5_riseOf 29 = .ok (.iload_n 3, 1) := by decide +kernel
theorem dX5_riseOf_30 : decode cX5_riseOf 30 = .ok (.iaload, 1) := by decide +kernel
theorem dX5_riseOf_31 : decode cX5_riseOf 31 = .ok (.imul, 1) := by decide +kernel
theorem dX5_riseOf_32 : decode cX5_riseOf 32 = .ok (.iload_n 3, 1) := by decide +kernel
theorem dX5_riseOf_33 : decode cX5_riseOf 33 = .ok (.iload_n 2, 1) := by decide +kernel
theorem dX5_riseOf_34 : decode cX5_riseOf 34 = .ok (.if_icmp .le 7, 3) := by decide +kernel
theorem dX5_riseOf_37 : decode cX5_riseOf 37 = .ok (.iconst 2, 1) := by decide +kernel
theorem dX5_riseOf_38 : decode cX5_riseOf 38 = .ok (.goto 13, 3) := by decide +kernel
theorem dX5_riseOf_41 : decode cX5_riseOf 41 = .ok (.iload_n 3, 1) := by decide +kernel
theorem dX5_riseOf_42 : decode cX5_riseOf 42 = .ok (.iload_n 2, 1) := by decide +kernel
theorem dX5_riseOf_43 : decode cX5_riseOf 43 = .ok (.if_icmp .ne 7, 3) := by decide +kernel
theorem dX5_riseOf_46 : decode cX5_riseOf 46 = .ok (.iconst 1, 1) := by decide +kernel
theorem dX5_riseOf_47 : decode cX5_riseOf 47 = .ok (.goto 4, 3) := by decide +kernel
theorem dX5_riseOf_50 : decode cX5_riseOf 50 = .ok (.iconst 0, 1) := by decide +kernel
theorem dX5_riseOf_51 : decode cX5_riseOf 51 = .ok (.imul, 1) := by decide +kernel
theorem dX5_riseOf_52 : decode cX5_riseOf 52 = .ok (.iadd, 1) := by decide +kernel
theorem dX5_riseOf_53 : decode cX5_riseOf 53 = .ok (.istore_n 1, 1) := by decide +kernel
theorem dX5_riseOf_54 : decode cX5_riseOf 54 = .ok (.iinc 3 1, 3) := by decide +kernel
theorem dX5_riseOf_57 : decode cX5_riseOf 57 = .ok (.goto (-45), 3) := by decide +kernel
theorem dX5_riseOf_60 : decode cX5_riseOf 60 = .ok (.iinc 2 1, 3) := by decide +kernel
theorem dX5_riseOf_63 : decode cX5_riseOf 63 = .ok (.goto (-59), 3) := by decide +kernel
theorem dX5_riseOf_66 : decode cX5_riseOf 66 = .ok (.iload_n 1, 1) := by decide +kernel
theorem dX5_riseOf_67 : decode cX5_riseOf 67 = .ok (.ireturn, 1) := by decide +kernel
set_option maxRecDepth 20000 in
theorem ggX5_rise_X5_in : GoodIn wsX5_rise wsX5_in := goodIn_r _ [7] (by decide +kernel) (by decide +kernel)
set_option maxRecDepth 20000 in
theorem gX5_rise_X5_in : GoodIn wsX5_rise (va_wsS RX5 79 yX5_in wsX5_in) := goodIn_app (goodIn_of _ (by decide +kernel)) ggX5_rise_X5_in
set_option maxRecDepth 20000 in
theorem ggX5_rise_X5_areWindows : GoodIn wsX5_rise wsX5_areWindows := goodIn_r _ [10, 11, 12, 6, 13] (by decide +kernel) (by decide +kernel)
set_option maxRecDepth 20000 in
theorem gX5_rise_X5_areWindows : GoodIn wsX5_rise (va_wsS RX5 145 yX5_areWindows wsX5_areWindows) := goodIn_app (goodIn_of _ (by decide +kernel)) ggX5_rise_X5_areWindows
set_option maxRecDepth 20000 in
theorem ggX5_rise_X5_counts : GoodIn wsX5_rise wsX5_counts := goodIn_r _ [17, 18, 19, 20, 21, 22, 23, 24, 25, 26, 6, 27, 28, 33, 34, 35, 36, 37, 38, 39, 40, 41, 42, 43, 44, 45, 46, 47, 48, 49, 50, 51, 52, 53, 54, 55, 56, 57, 58, 59, 60, 61, 62] (by decide +kernel) (by decide +kernel)
set_option maxRecDepth 20000 in
theorem gX5_rise_X5_counts : GoodIn wsX5_rise (wsV RX5 148 RX5 yX5_counts wsX5_counts) := goodIn_app (goodIn_of _ (by decide +kernel)) ggX5_rise_X5_counts
set_option maxRecDepth 20000 in
theorem ggX5_rise_X5_riseOf : GoodIn wsX5_rise wsX5_riseOf := goodIn_r _ [32, 20, 21, 33, 34, 35, 36, 37, 38, 39, 40, 41, 42, 43, 44, 45, 46, 47, 48, 49, 50, 51, 52, 53, 54, 55, 56, 57, 58, 59, 60, 61, 62] (by decide +kernel) (by decide +kernel)
set_option maxRecDepth 20000 in
theorem gX5_rise_X5_riseOf : GoodIn wsX5_rise (wsV RX5 156 RX5 yX5_riseOf wsX5_riseOf) := goodIn_app (goodIn_of _ (by decide +kernel)) ggX5_rise_X5_riseOf
theorem dX5_rise_0 : decode cX5_rise 0 = .ok (.aload_n 0, 1) := by decide +kernel
theorem dX5_rise_1 : decode cX5_rise 1 = .ok (.iconst 0, 1) := by decide +kernel
theorem dX5_rise_2 : decode cX5_rise 2 = .ok (.putfield 75, 3) := by decide +kernel
theorem dX5_rise_5 : decode cX5_rise 5 = .ok (.iload_n 1, 1) := by decide +kernel
theorem dX5_rise_6 : decode cX5_rise 6 = .ok (.iconst 0, 1) := by decide +kernel
theorem dX5_rise_7 : decode cX5_rise 7 = .ok (.iconst 4, 1) := by decide +kernel
theorem dX5_rise_8 : decode cX5_rise 8 = .ok (.invokestatic 79, 3) := by decide +kernel
theorem dX5_rise_11 : decode cX5_rise 11 = .ok (.ifCond .ne 6, 3) := by decide +kernel
theorem dX5_rise_14 : decode cX5_rise 14 = .ok (.ldc 88, 2) := by decide +kernel
theorem dX5_rise_16 : decode cX5_rise 16 = .ok (.ireturn, 1) := by decide +kernel
theorem dX5_rise_17 : decode cX5_rise 17 = .ok (.iload_n 2, 1) := by decide +kernel
theorem dX5_rise_18 : decode cX5_rise 18 = .ok (.iload_n 3, 1) := by decide +kernel
theorem dX5_rise_19 : decode cX5_rise 19 = .ok (.iload 4, 2) := by decide +kernel
theorem dX5_rise_21 : decode cX5_rise 21 = .ok (.invokestatic 145, 3) := by decide +kernel
theorem dX5_rise_24 : decode cX5_rise 24 = .ok (.ifCond .ne 6, 3) := by decide +kernel
theorem dX5_rise_27 : decode cX5_rise 27 = .ok (.ldc 83, 2) := by decide +kernel
theorem dX5_rise_29 : decode cX5_rise 29 = .ok (.ireturn, 1) := by decide +kernel
theorem dX5_rise_30 : decode cX5_rise 30 = .ok (.aload_n 0, 1) := by decide +kernel
theorem dX5_rise_31 : decode cX5_rise 31 = .ok (.iload_n 1, 1) := by decide +kernel
theorem dX5_rise_32 : decode cX5_rise 32 = .ok (.iload_n 2, 1) := by decide +kernel
theorem dX5_rise_33 : decode cX5_rise 33 = .ok (.iload_n 3, 1) := by decide +kernel
theorem dX5_rise_34 : decode cX5_rise 34 = .ok (.iload_n 3, 1) := by decide +kernel
theorem dX5_rise_35 : decode cX5_rise 35 = .ok (.iload 4, 2) := by decide +kernel
theorem dX5_rise_37 : decode cX5_rise 37 = .ok (.invokevirtual 148, 3) := by decide +kernel
theorem dX5_rise_40 : decode cX5_rise 40 = .ok (.aload_n 0, 1) := by decide +kernel
theorem dX5_rise_41 : decode cX5_rise 41 = .ok (.invokevirtual 156, 3) := by decide +kernel
theorem dX5_rise_44 : decode cX5_rise 44 = .ok (.ireturn, 1) := by decide +kernel
theorem dX5_setChoose_0 : decode cX5_setChoose 0 = .ok (.iconst 0, 1) := by decide +kernel
theorem dX5_setChoose_1 : decode cX5_setChoose 1 = .ok (.istore_n 1, 1) := by decide +kernel
theorem dX5_setChoose_2 : decode cX5_setChoose 2 = .ok (.iload_n 1, 1) := by decide +kernel
theorem dX5_setChoose_3 : decode cX5_setChoose 3 = .ok (.bipush 21, 2) := by decide +kernel
theorem dX5_setChoose_5 : decode cX5_setChoose 5 = .ok (.if_icmp .ge 79, 3) := by decide +kernel
theorem dX5_setChoose_8 : decode cX5_setChoose 8 = .ok (.iconst 0, 1) := by decide +kernel
theorem dX5_setChoose_9 : decode cX5_setChoose 9 = .ok (.istore_n 2, 1) := by decide +kernel
theorem dX5_setChoose_10 : decode cX5_setChoose 10 = .ok (.iload_n 2, 1) := by decide +kernel
theorem dX5_setChoose_11 : decode cX5_setChoose 11 = .ok (.bipush 21, 2) := by decide +kernel
theorem dX5_setChoose_13 : decode cX5_setChoose 13 = .ok (.if_icmp .ge 65, 3) := by decide +kernel
theorem dX5_setChoose_16 : decode cX5_setChoose 16 = .ok (.aload_n 0, 1) := by decide +kernel
theorem dX5_setChoose_17 : decode cX5_setChoose 17 = .ok (.getfield 54, 3) := by decide +kernel
theorem dX5_setChoose_20 : decode cX5_setChoose 20 = .ok (.bipush 21, 2) := by decide +kernel
theorem dX5_setChoose_22 : decode cX5_setChoose 22 = .ok (.iload_n 1, 1) := by decide +kernel
theorem dX5_setChoose_23 : decode cX5_setChoose 23 = .ok (.imul, 1) := by decide +kernel
theorem dX5_setChoose_24 : decode cX5_setChoose 24 = .ok (.iload_n 2, 1) := by decide +kernel
theorem dX5_setChoose_25 : decode cX5_setChoose 25 = .ok (.iadd, 1) := by decide +kernel
theorem dX5_setChoose_26 : decode cX5_setChoose 26 = .ok (.iload_n 2, 1) := by decide +kernel
theorem dX5_setChoose_27 : decode cX5_setChoose 27 = .ok (.ifCond .ne 7, 3) := by decide +kernel
theorem dX5_setChoose_30 : decode cX5_setChoose 30 = .ok (.lconst 1, 1) := by decide +kernel
theorem dX5_setChoose_31 : decode cX5_setChoose 31 = .ok (.goto 40, 3) := by decide +kernel
theorem dX5_setChoose_34 : decode cX5_setChoose 34 = .ok (.iload_n 1, 1) := by decide +kernel
theorem dX5_setChoose_35 : decode cX5_setChoose 35 = .ok (.ifCond .ne 7, 3) := by decide +kernel
theorem dX5_setChoose_38 : decode cX5_setChoose 38 = .ok (.lconst 0, 1) := by decide +kernel
theorem dX5_setChoose_39 : decode cX5_setChoose 39 = .ok (.goto 32, 3) := by decide +kernel
theorem dX5_setChoose_42 : decode cX5_setChoose 42 = .ok (.aload_n 0, 1) := by decide +kernel
theorem dX5_setChoose_43 : decode cX5_setChoose 43 = .ok (.getfield 54, 3) := by decide +kernel
theorem dX5_setChoose_46 : decode cX5_setChoose 46 = .ok (.bipush 21, 2) := by decide +kernel
theorem dX5_setChoose_48 : decode cX5_setChoose 48 = .ok (.iload_n 1, 1) := by decide +kernel
theorem dX5_setChoose_49 : decode cX5_setChoose 49 = .ok (.iconst 1, 1) := by decide +kernel
theorem dX5_setChoose_50 : decode cX5_setChoose 50 = .ok (.isub, 1) := by decide +kernel
theorem dX5_setChoose_51 : decode cX5_setChoose 51 = .ok (.imul, 1) := by decide +kernel
theorem dX5_setChoose_52 : decode cX5_setChoose 52 = .ok (.iload_n 2, 1) := by decide +kernel
theorem dX5_setChoose_53 : decode cX5_setChoose 53 = .ok (.iadd, 1) := by decide +kernel
theorem dX5_setChoose_54 : decode cX5_setChoose 54 = .ok (.laload, 1) := by decide +kernel
theorem dX5_setChoose_55 : decode cX5_setChoose 55 = .ok (.aload_n 0, 1) := by decide +kernel
theorem dX5_setChoose_56 : decode cX5_setChoose 56 = .ok (.getfield 54, 3) := by decide +kernel
theorem dX5_setChoose_59 : decode cX5_setChoose 59 = .ok (.bipush 21, 2) := by decide +kernel
theorem dX5_setChoose_61 : decode cX5_setChoose 61 = .ok (.iload_n 1, 1) := by decide +kernel
theorem dX5_setChoose_62 : decode cX5_setChoose 62 = .ok (.iconst 1, 1) := by decide +kernel
theorem dX5_setChoose_63 : decode cX5_setChoose 63 = .ok (.isub, 1) := by decide +kernel
theorem dX5_setChoose_64 : decode cX5_setChoose 64 = .ok (.imul, 1) := by decide +kernel
theorem dX5_setChoose_65 : decode cX5_setChoose 65 = .ok (.iload_n 2, 1) := by decide +kernel
theorem dX5_setChoose_66 : decode cX5_setChoose 66 = .ok (.iadd, 1) := by decide +kernel
theorem dX5_setChoose_67 : decode cX5_setChoose 67 = .ok (.iconst 1, 1) := by decide +kernel
theorem dX5_setChoose_68 : decode cX5_setChoose 68 = .ok (.isub, 1) := by decide +kernel
theorem dX5_setChoose_69 : decode cX5_setChoose 69 = .ok (.laload, 1) := by decide +kernel
theorem dX5_setChoose_70 : decode cX5_setChoose 70 = .ok (.ladd, 1) := by decide +kernel
theorem dX5_setChoose_71 : decode cX5_setChoose 71 = .ok (.lastore, 1) := by decide +kernel
theorem dX5_setChoose_72 : decode cX5_setChoose 72 = .ok (.iinc 2 1, 3) := by decide +kernel
theorem dX5_setChoose_75 : decode cX5_setChoose 75 = .ok (.goto (-65), 3) := by decide +kernel
theorem dX5_setChoose_78 : decode cX5_setChoose 78 = .ok (.iinc 1 1, 3) := by decide +kernel
theorem dX5_setChoose_81 : decode cX5_setChoose 81 = .ok (.goto (-79), 3) := by decide +kernel
theorem dX5_setChoose_84 : decode cX5_setChoose 84 = .ok (.return_, 1) := by decide +kernel
set_option maxRecDepth 20000 in
theorem ggX5_odds_X5_in : GoodIn wsX5_odds wsX5_in := goodIn_r _ [15] (by decide +kernel) (by decide +kernel)
set_option maxRecDepth 20000 in
theorem gX5_odds_X5_in : GoodIn wsX5_odds (va_wsS RX5 79 yX5_in wsX5_in) := goodIn_app (goodIn_of _ (by decide +kernel)) ggX5_odds_X5_in
set_option maxRecDepth 20000 in
theorem ggX5_odds_X5_areWindows : GoodIn wsX5_odds wsX5_areWindows := goodIn_r _ [18, 19, 20, 14, 21] (by decide +kernel) (by decide +kernel)
set_option maxRecDepth 20000 in
theorem gX5_odds_X5_areWindows : GoodIn wsX5_odds (va_wsS RX5 145 yX5_areWindows wsX5_areWindows) := goodIn_app (goodIn_of _ (by decide +kernel)) ggX5_odds_X5_areWindows
set_option maxRecDepth 20000 in
theorem ggX5_odds_X5_counts : GoodIn wsX5_odds wsX5_counts := goodIn_r _ [25, 4, 6, 5, 7, 26, 27, 28, 29, 30, 14, 31, 32, 47, 48, 49, 50, 51, 52, 53, 54, 55, 56, 57, 58, 59, 60, 61, 62, 63, 64, 65, 66, 67, 68, 69, 70, 71, 72, 73, 74, 75, 76] (by decide +kernel) (by decide +kernel)
set_option maxRecDepth 20000 in
theorem gX5_odds_X5_counts : GoodIn wsX5_odds (wsV RX5 148 RX5 yX5_counts wsX5_counts) := goodIn_app (goodIn_of _ (by decide +kernel)) ggX5_odds_X5_counts
set_option maxRecDepth 20000 in
theorem ggX5_odds_X5_setChoose : GoodIn wsX5_odds wsX5_setChoose := goodIn_r _ [36, 11, 47, 48, 49, 50, 51, 52, 53, 54, 55, 56, 57, 58, 59, 60, 61, 62, 63, 64, 65, 66, 67, 68, 69, 70, 71, 72, 73, 74, 75, 76] (by decide +kernel) (by decide +kernel)
set_option maxRecDepth 20000 in
theorem gX5_odds_X5_setChoose : GoodIn wsX5_odds (wsV RX5 162 RX5 yX5_setChoose wsX5_setChoose) := goodIn_app (goodIn_of _ (by decide +kernel)) ggX5_odds_X5_setChoose
set_option maxRecDepth 20000 in
theorem ggX5_odds_X5_riseOf : GoodIn wsX5_odds wsX5_riseOf := goodIn_r _ [40, 5, 7, 47, 48, 49, 50, 51, 52, 53, 54, 55, 56, 57, 58, 59, 60, 61, 62, 63, 64, 65, 66, 67, 68, 69, 70, 71, 72, 73, 74, 75, 76] (by decide +kernel) (by decide +kernel)
set_option maxRecDepth 20000 in
theorem gX5_odds_X5_riseOf : GoodIn wsX5_odds (wsV RX5 156 RX5 yX5_riseOf wsX5_riseOf) := goodIn_app (goodIn_of _ (by decide +kernel)) ggX5_odds_X5_riseOf
set_option maxRecDepth 20000 in
theorem ggX5_odds_X5_part : GoodIn wsX5_odds wsX5_part := goodIn_r _ [43, 44, 45, 14, 46] (by decide +kernel) (by decide +kernel)
set_option maxRecDepth 20000 in
theorem gX5_odds_X5_part : GoodIn wsX5_odds (va_wsS RX5 119 yX5_part wsX5_part) := goodIn_app (goodIn_of _ (by decide +kernel)) ggX5_odds_X5_part
theorem dX5_odds_0 : decode cX5_odds 0 = .ok (.aload_n 0, 1) := by decide +kernel
theorem dX5_odds_1 : decode cX5_odds 1 = .ok (.iconst 0, 1) := by decide +kernel
theorem dX5_odds_2 : decode cX5_odds 2 = .ok (.putfield 75, 3) := by decide +kernel
theorem dX5_odds_5 : decode cX5_odds 5 = .ok (.iload_n 1, 1) := by decide +kernel
theorem dX5_odds_6 : decode cX5_odds 6 = .ok (.iconst 0, 1) := by decide +kernel
theorem dX5_odds_7 : decode cX5_odds 7 = .ok (.iconst 4, 1) := by decide +kernel
theorem dX5_odds_8 : decode cX5_odds 8 = .ok (.invokestatic 79, 3) := by decide +kernel
theorem dX5_odds_11 : decode cX5_odds 11 = .ok (.ifCond .ne 7, 3) := by decide +kernel
theorem dX5_odds_14 : decode cX5_odds 14 = .ok (.ldc2_w 115, 3) := by decide +kernel
theorem dX5_odds_17 : decode cX5_odds 17 = .ok (.lreturn, 1) := by decide +kernel
theorem dX5_odds_18 : decode cX5_odds 18 = .ok (.iload_n 2, 1) := by decide +kernel
theorem dX5_odds_19 : decode cX5_odds 19 = .ok (.iload_n 3, 1) := by decide +kernel
theorem dX5_odds_20 : decode cX5_odds 20 = .ok (.iload 4, 2) := by decide +kernel
theorem dX5_odds_22 : decode cX5_odds 22 = .ok (.invokestatic 145, 3) := by decide +kernel
theorem dX5_odds_25 : decode cX5_odds 25 = .ok (.ifCond .eq 13, 3) := by decide +kernel
theorem dX5_odds_28 : decode cX5_odds 28 = .ok (.iload 5, 2) := by decide +kernel
theorem dX5_odds_30 : decode cX5_odds 30 = .ok (.iconst 0, 1) := by decide +kernel
theorem dX5_odds_31 : decode cX5_odds 31 = .ok (.iconst 1, 1) := by decide +kernel
theorem dX5_odds_32 : decode cX5_odds 32 = .ok (.invokestatic 79, 3) := by decide +kernel
theorem dX5_odds_35 : decode cX5_odds 35 = .ok (.ifCond .ne 7, 3) := by decide +kernel
theorem dX5_odds_38 : decode cX5_odds 38 = .ok (.ldc2_w 117, 3) := by decide +kernel
theorem dX5_odds_41 : decode cX5_odds 41 = .ok (.lreturn, 1) := by decide +kernel
theorem dX5_odds_42 : decode cX5_odds 42 = .ok (.aload_n 0, 1) := by decide +kernel
theorem dX5_odds_43 : decode cX5_odds 43 = .ok (.iload_n 1, 1) := by decide +kernel
theorem dX5_odds_44 : decode cX5_odds 44 = .ok (.iload_n 2, 1) := by decide +kernel
theorem dX5_odds_45 : decode cX5_odds 45 = .ok (.iload_n 3, 1) := by decide +kernel
theorem dX5_odds_46 : decode cX5_odds 46 = .ok (.iload_n 3, 1) := by decide +kernel
theorem dX5_odds_47 : decode cX5_odds 47 = .ok (.iload 4, 2) := by decide +kernel
theorem dX5_odds_49 : decode cX5_odds 49 = .ok (.invokevirtual 148, 3) := by decide +kernel
theorem dX5_odds_52 : decode cX5_odds 52 = .ok (.aload_n 0, 1) := by decide +kernel
theorem dX5_odds_53 : decode cX5_odds 53 = .ok (.getfield 130, 3) := by decide +kernel
theorem dX5_odds_56 : decode cX5_odds 56 = .ok (.aload_n 0, 1) := by decide +kernel
theorem dX5_odds_57 : decode cX5_odds 57 = .ok (.getfield 42, 3) := by decide +kernel
theorem dX5_odds_60 : decode cX5_odds 60 = .ok (.bipush 10, 2) := by decide +kernel
theorem dX5_odds_62 : decode cX5_odds 62 = .ok (.iaload, 1) := by decide +kernel
theorem dX5_odds_63 : decode cX5_odds 63 = .ok (.isub, 1) := by decide +kernel
theorem dX5_odds_64 : decode cX5_odds 64 = .ok (.istore 6, 2) := by decide +kernel
theorem dX5_odds_66 : decode cX5_odds 66 = .ok (.iload 6, 2) := by decide +kernel
theorem dX5_odds_68 : decode cX5_odds 68 = .ok (.aload_n 0, 1) := by decide +kernel
theorem dX5_odds_69 : decode cX5_odds 69 = .ok (.getfield 133, 3) := by decide +kernel
theorem dX5_odds_72 : decode cX5_odds 72 = .ok (.iadd, 1) := by decide +kernel
theorem dX5_odds_73 : decode cX5_odds 73 = .ok (.aload_n 0, 1) := by decide +kernel
theorem dX5_odds_74 : decode cX5_odds 74 = .ok (.getfield 45, 3) := by decide +kernel
theorem dX5_odds_77 : decode cX5_odds 77 = .ok (.bipush 10, 2) := by decide +kernel
theorem dX5_odds_79 : decode cX5_odds 79 = .ok (.iaload, 1) := by decide +kernel
theorem dX5_odds_80 : decode cX5_odds 80 = .ok (.isub, 1) := by decide +kernel
theorem dX5_odds_81 : decode cX5_odds 81 = .ok (.istore 7, 2) := by decide +kernel
theorem dX5_odds_83 : decode cX5_odds 83 = .ok (.iload 7, 2) := by decide +kernel
theorem dX5_odds_85 : decode cX5_odds 85 = .ok (.bipush 20, 2) := by decide +kernel
theorem dX5_odds_87 : decode cX5_odds 87 = .ok (.if_icmp .le 7, 3) := by decide +kernel
theorem dX5_odds_90 : decode cX5_odds 90 = .ok (.ldc2_w 160, 3) := by decide +kernel
theorem dX5_odds_93 : decode cX5_odds 93 = .ok (.lreturn, 1) := by decide +kernel
theorem dX5_odds_94 : decode cX5_odds 94 = .ok (.aload_n 0, 1) := by decide +kernel
theorem dX5_odds_95 : decode cX5_odds 95 = .ok (.invokevirtual 162, 3) := by decide +kernel
theorem dX5_odds_98 : decode cX5_odds 98 = .ok (.iconst 0, 1) := by decide +kernel
theorem dX5_odds_99 : decode cX5_odds 99 = .ok (.istore 8, 2) := by decide +kernel
theorem dX5_odds_101 : decode cX5_odds 101 = .ok (.iload 8, 2) := by decide +kernel
theorem dX5_odds_103 : decode cX5_odds 103 = .ok (.sipush 8421, 3) := by decide +kernel
theorem dX5_odds_106 : decode cX5_odds 106 = .ok (.if_icmp .ge 26, 3) := by decide +kernel
theorem dX5_odds_109 : decode cX5_odds 109 = .ok (.aload_n 0, 1) := by decide +kernel
theorem dX5_odds_110 : decode cX5_odds 110 = .ok (.getfield 48, 3) := by decide +kernel
theorem dX5_odds_113 : decode cX5_odds 113 = .ok (.iload 8, 2) := by decide +kernel
theorem dX5_odds_115 : decode cX5_odds 115 = .ok (.iload 8, 2) := by decide +kernel
theorem dX5_odds_117 : decode cX5_odds 117 = .ok (.ifCond .ne 7, 3) := by decide +kernel
theorem dX5_odds_120 : decode cX5_odds 120 = .ok (.lconst 1, 1) := by decide +kernel
theorem dX5_odds_121 : decode cX5_odds 121 = .ok (.goto 4, 3) := by decide +kernel
theorem dX5_odds_124 : decode cX5_odds 124 = .ok (.lconst 0, 1) := by decide +kernel
theorem dX5_odds_125 : decode cX5_odds 125 = .ok (.lastore, 1) := by decide +kernel
theorem dX5_odds_126 : decode cX5_odds 126 = .ok (.iinc 8 1, 3) := by decide +kernel
theorem dX5_odds_129 : decode cX5_odds 129 = .ok (.goto (-28), 3) := by decide +kernel
theorem dX5_odds_132 : decode cX5_odds 132 = .ok (.iconst 0, 1) := by decide +kernel
theorem dX5_odds_133 : decode cX5_odds 133 = .ok (.istore 8, 2) := by decide +kernel
theorem dX5_odds_135 : decode cX5_odds 135 = .ok (.iload 8, 2) := by decide +kernel
theorem dX5_odds_137 : decode cX5_odds 137 = .ok (.bipush 10, 2) := by decide +kernel
theorem dX5_odds_139 : decode cX5_odds 139 = .ok (.if_icmp .ge 210, 3) := by decide +kernel
theorem dX5_odds_142 : decode cX5_odds 142 = .ok (.aload_n 0, 1) := by decide +kernel
theorem dX5_odds_143 : decode cX5_odds 143 = .ok (.getfield 42, 3) := by decide +kernel
theorem dX5_odds_146 : decode cX5_odds 146 = .ok (.iload 8, 2) := by decide +kernel
theorem dX5_odds_148 : decode cX5_odds 148 = .ok (.iaload, 1) := by decide +kernel
theorem dX5_odds_149 : decode cX5_odds 149 = .ok (.aload_n 0, 1) := by decide +kernel
theorem dX5_odds_150 : decode cX5_odds 150 = .ok (.getfield 45, 3) := by decide +kernel
theorem dX5_odds_153 : decode cX5_odds 153 = .ok (.iload 8, 2) := by decide +kernel
theorem dX5_odds_155 : decode cX5_odds 155 = .ok (.iaload, 1) := by decide +kernel
theorem dX5_odds_156 : decode cX5_odds 156 = .ok (.iadd, 1) := by decide +kernel
theorem dX5_odds_157 : decode cX5_odds 157 = .ok (.istore 9, 2) := by decide +kernel
theorem dX5_odds_159 : decode cX5_odds 159 = .ok (.iconst 0, 1) := by decide +kernel
theorem dX5_odds_160 : decode cX5_odds 160 = .ok (.istore 10, 2) := by decide +kernel
theorem dX5_odds_162 : decode cX5_odds 162 = .ok (.iload 10, 2) := by decide +kernel
theorem dX5_odds_164 : decode cX5_odds 164 = .ok (.sipush 8421, 3) := by decide +kernel
theorem dX5_odds_167 : decode cX5_odds 167 = .ok (.if_icmp .ge 17, 3) := by decide +kernel
theorem dX5_odds_170 : decode cX5_odds 170 = .ok (.aload_n 0, 1) := by decide +kernel
theorem dX5_odds_171 : decode cX5_odds 171 = .ok (.getfield 51, 3) := by decide +kernel
theorem dX5_odds_174 : decode cX5_odds 174 = .ok (.iload 10, 2) := by decide +kernel
theorem dX5_odds_176 : decode cX5_odds 176 = .ok (.lconst 0, 1) := by decide +kernel
theorem dX5_odds_177 : decode cX5_odds 177 = .ok (.lastore, 1) := by decide +kernel
theorem dX5_odds_178 : decode cX5_odds 178 = .ok (.iinc 10 1, 3) := by decide +kernel
theorem dX5_odds_181 : decode cX5_odds 181 = .ok (.goto (-19), 3) := by decide +kernel
theorem dX5_odds_184 : decode cX5_odds 184 = .ok (.iconst 0, 1) := by decide +kernel
theorem dX5_odds_185 : decode cX5_odds 185 = .ok (.istore 10, 2) := by decide +kernel
theorem dX5_odds_187 : decode cX5_odds 187 = .ok (.iload 10, 2) := by decide +kernel
theorem dX5_odds_189 : decode cX5_odds 189 = .ok (.bipush 21, 2) := by decide +kernel
theorem dX5_odds_191 : decode cX5_odds 191 = .ok (.if_icmp .ge 121, 3) := by decide +kernel
theorem dX5_odds_194 : decode cX5_odds 194 = .ok (.iconst 0, 1) := by decide +kernel
theorem dX5_odds_195 : decode cX5_odds 195 = .ok (.istore 11, 2) := by decide +kernel
theorem dX5_odds_197 : decode cX5_odds 197 = .ok (.iload 11, 2) := by decide +kernel
theorem dX5_odds_199 : decode cX5_odds 199 = .ok (.iload 9, 2) := by decide +kernel
theorem dX5_odds_201 : decode cX5_odds 201 = .ok (.if_icmp .gt 105, 3) := by decide +kernel
theorem dX5_odds_204 : decode cX5_odds 204 = .ok (.iload 10, 2) := by decide +kernel
theorem dX5_odds_206 : decode cX5_odds 206 = .ok (.iload 11, 2) := by decide +kernel
theorem dX5_odds_208 : decode cX5_odds 208 = .ok (.iadd, 1) := by decide +kernel
theorem dX5_odds_209 : decode cX5_odds 209 = .ok (.bipush 21, 2) := by decide +kernel
theorem dX5_odds_211 : decode cX5_odds 211 = .ok (.if_icmp .ge 95, 3) := by decide +kernel
theorem dX5_odds_214 : decode cX5_odds 214 = .ok (.iload 9, 2) := by decide +kernel
theorem dX5_odds_216 : decode cX5_odds 216 = .ok (.iload 11, 2) := by decide +kernel
theorem dX5_odds_218 : decode cX5_odds 218 = .ok (.isub, 1) := by decide +kernel
theorem dX5_odds_219 : decode cX5_odds 219 = .ok (.iconst 2, 1) := by decide +kernel
theorem dX5_odds_220 : decode cX5_odds 220 = .ok (.iload 10, 2) := by decide +kernel
theorem dX5_odds_222 : decode cX5_odds 222 = .ok (.imul, 1) := by decide +kernel
theorem dX5_odds_223 : decode cX5_odds 223 = .ok (.iload 11, 2) := by decide +kernel
theorem dX5_odds_225 : decode cX5_odds 225 = .ok (.iadd, 1) := by decide +kernel
theorem dX5_odds_226 : decode cX5_odds 226 = .ok (.imul, 1) := by decide +kernel
theorem dX5_odds_227 : decode cX5_odds 227 = .ok (.istore 12, 2) := by decide +kernel
theorem dX5_odds_229 : decode cX5_odds 229 = .ok (.iconst 0, 1) := by decide +kernel
theorem dX5_odds_230 : decode cX5_odds 230 = .ok (.istore 13, 2) := by decide +kernel
theorem dX5_odds_232 : decode cX5_odds 232 = .ok (.iload 13, 2) := by decide +kernel
theorem dX5_odds_234 : decode cX5_odds 234 = .ok (.iload 12, 2) := by decide +kernel
theorem dX5_odds_236 : decode cX5_odds 236 = .ok (.iadd, 1) := by decide +kernel
theorem dX5_odds_237 : decode cX5_odds 237 = .ok (.sipush 401, 3) := by decide +kernel
theorem dX5_odds_240 : decode cX5_odds 240 = .ok (.if_icmp .ge 60, 3) := by decide +kernel
theorem dX5_odds_243 : decode cX5_odds 243 = .ok (.aload_n 0, 1) := by decide +kernel
theorem dX5_odds_244 : decode cX5_odds 244 = .ok (.getfield 51, 3) := by decide +kernel
theorem dX5_odds_247 : decode cX5_odds 247 = .ok (.sipush 401, 3) := by decide +kernel
theorem dX5_odds_250 : decode cX5_odds 250 = .ok (.iload 10, 2) := by decide +kernel
theorem dX5_odds_252 : decode cX5_odds 252 = .ok (.iload 11, 2) := by decide +kernel
theorem dX5_odds_254 : decode cX5_odds 254 = .ok (.iadd, 1) := by decide +kernel
theorem dX5_odds_255 : decode cX5_odds 255 = .ok (.imul, 1) := by decide +kernel
theorem dX5_odds_256 : decode cX5_odds 256 = .ok (.iload 13, 2) := by decide +kernel
theorem dX5_odds_258 : decode cX5_odds 258 = .ok (.iadd, 1) := by decide +kernel
theorem dX5_odds_259 : decode cX5_odds 259 = .ok (.iload 12, 2) := by decide +kernel
theorem dX5_odds_261 : decode cX5_odds 261 = .ok (.iadd, 1) := by decide +kernel
theorem dX5_odds_262 : decode cX5_odds 262 = .ok (.dup2, 1) := by decide +kernel
theorem dX5_odds_263 : decode cX5_odds 263 = .ok (.laload, 1) := by decide +kernel
theorem dX5_odds_264 : decode cX5_odds 264 = .ok (.aload_n 0, 1) := by decide +kernel
theorem dX5_odds_265 : decode cX5_odds 265 = .ok (.getfield 48, 3) := by decide +kernel
theorem dX5_odds_268 : decode cX5_odds 268 = .ok (.sipush 401, 3) := by decide +kernel
theorem dX5_odds_271 : decode cX5_odds 271 = .ok (.iload 10, 2) := by decide +kernel
theorem dX5_odds_273 : decode cX5_odds 273 = .ok (.imul, 1) := by decide +kernel
theorem dX5_odds_274 : decode cX5_odds 274 = .ok (.iload 13, 2) := by decide +kernel
theorem dX5_odds_276 : decode cX5_odds 276 = .ok (.iadd, 1) := by decide +kernel
theorem dX5_odds_277 : decode cX5_odds 277 = .ok (.laload, 1) := by decide +kernel
theorem dX5_odds_278 : decode cX5_odds 278 = .ok (.aload_n 0, 1) := by decide +kernel
theorem dX5_odds_279 : decode cX5_odds 279 = .ok (.getfield 54, 3) := by decide +kernel
theorem dX5_odds_282 : decode cX5_odds 282 = .ok (.bipush 21, 2) := by decide +kernel
theorem dX5_odds_284 : decode cX5_odds 284 = .ok (.iload 9, 2) := by decide +kernel
theorem dX5_odds_286 : decode cX5_odds 286 = .ok (.imul, 1) := by decide +kernel
theorem dX5_odds_287 : decode cX5_odds 287 = .ok (.iload 11, 2) := by decide +kernel
theorem dX5_odds_289 : decode cX5_odds 289 = .ok (.iadd, 1) := by decide +kernel
theorem dX5_odds_290 : decode cX5_odds 290 = .ok (.laload, 1) := by decide +kernel
theorem dX5_odds_291 : decode cX5_odds 291 = .ok (.lmul, 1) := by decide +kernel
theorem dX5_odds_292 : decode cX5_odds 292 = .ok (.ladd, 1) := by decide +kernel
theorem dX5_odds_293 : decode cX5_odds 293 = .ok (.lastore, 1) := by decide +kernel
theorem dX5_odds_294 : decode cX5_odds 294 = .ok (.iinc 13 1, 3) := by decide +kernel
theorem dX5_odds_297 : decode cX5_odds 297 = .ok (.goto (-65), 3) := by decide +kernel
theorem dX5_odds_300 : decode cX5_odds 300 = .ok (.iinc 11 1, 3) := by decide +kernel
theorem dX5_odds_303 : decode cX5_odds 303 = .ok (.goto (-106), 3) := by decide +kernel
theorem dX5_odds_306 : decode cX5_odds 306 = .ok (.iinc 10 1, 3) := by decide +kernel
theorem dX5_odds_309 : decode cX5_odds 309 = .ok (.goto (-122), 3) := by decide +kernel
theorem dX5_odds_312 : decode cX5_odds 312 = .ok (.iconst 0, 1) := by decide +kernel
theorem dX5_odds_313 : decode cX5_odds 313 = .ok (.istore 10, 2) := by decide +kernel
theorem dX5_odds_315 : decode cX5_odds 315 = .ok (.iload 10, 2) := by decide +kernel
theorem dX5_odds_317 : decode cX5_odds 317 = .ok (.sipush 8421, 3) := by decide +kernel
theorem dX5_odds_320 : decode cX5_odds 320 = .ok (.if_icmp .ge 23, 3) := by decide +kernel
theorem dX5_odds_323 : decode cX5_odds 323 = .ok (.aload_n 0, 1) := by decide +kernel
theorem dX5_odds_324 : decode cX5_odds 324 = .ok (.getfield 48, 3) := by decide +kernel
theorem dX5_odds_327 : decode cX5_odds 327 = .ok (.iload 10, 2) := by decide +kernel
theorem dX5_odds_329 : decode cX5_odds 329 = .ok (.aload_n 0, 1) := by decide +kernel
theorem dX5_odds_330 : decode cX5_odds 330 = .ok (.getfield 51, 3) := by decide +kernel
theorem dX5_odds_333 : decode cX5_odds 333 = .ok (.iload 10, 2) := by decide +kernel
theorem dX5_odds_335 : decode cX5_odds 335 = .ok (.laload, 1) := by decide +kernel
theorem dX5_odds_336 : decode cX5_odds 336 = .ok (.lastore, 1) := by decide +kernel
theorem dX5_odds_337 : decode cX5_odds 337 = .ok (.iinc 10 1, 3) := by decide +kernel
theorem dX5_odds_340 : decode cX5_odds 340 = .ok (.goto (-25), 3) := by decide +kernel
theorem dX5_odds_343 : decode cX5_odds 343 = .ok (.iinc 8 1, 3) := by decide +kernel
theorem dX5_odds_346 : decode cX5_odds 346 = .ok (.goto (-211), 3) := by decide +kernel
theorem dX5_odds_349 : decode cX5_odds 349 = .ok (.lconst 0, 1) := by decide +kernel
theorem dX5_odds_350 : decode cX5_odds 350 = .ok (.lstore 8, 2) := by decide +kernel
theorem dX5_odds_352 : decode cX5_odds 352 = .ok (.aload_n 0, 1) := by decide +kernel
theorem dX5_odds_353 : decode cX5_odds 353 = .ok (.invokevirtual 156, 3) := by decide +kernel
theorem dX5_odds_356 : decode cX5_odds 356 = .ok (.istore 10, 2) := by decide +kernel
theorem dX5_odds_358 : decode cX5_odds 358 = .ok (.iload 10, 2) := by decide +kernel
theorem dX5_odds_360 : decode cX5_odds 360 = .ok (.sipush 401, 3) := by decide +kernel
theorem dX5_odds_363 : decode cX5_odds 363 = .ok (.if_icmp .ge 28, 3) := by decide +kernel
theorem dX5_odds_366 : decode cX5_odds 366 = .ok (.lload 8, 2) := by decide +kernel
theorem dX5_odds_368 : decode cX5_odds 368 = .ok (.aload_n 0, 1) := by decide +kernel
theorem dX5_odds_369 : decode cX5_odds 369 = .ok (.getfield 48, 3) := by decide +kernel
theorem dX5_odds_372 : decode cX5_odds 372 = .ok (.sipush 401, 3) := by decide +kernel
theorem dX5_odds_375 : decode cX5_odds 375 = .ok (.iload 6, 2) := by decide +kernel
theorem dX5_odds_377 : decode cX5_odds 377 = .ok (.imul, 1) := by decide +kernel
theorem dX5_odds_378 : decode cX5_odds 378 = .ok (.iload 10, 2) := by decide +kernel
theorem dX5_odds_380 : decode cX5_odds 380 = .ok (.iadd, 1) := by decide +kernel
theorem dX5_odds_381 : decode cX5_odds 381 = .ok (.laload, 1) := by decide +kernel
theorem dX5_odds_382 : decode cX5_odds 382 = .ok (.ladd, 1) := by decide +kernel
theorem dX5_odds_383 : decode cX5_odds 383 = .ok (.lstore 8, 2) := by decide +kernel
theorem dX5_odds_385 : decode cX5_odds 385 = .ok (.iinc 10 1, 3) := by decide +kernel
theorem dX5_odds_388 : decode cX5_odds 388 = .ok (.goto (-30), 3) := by decide +kernel
theorem dX5_odds_391 : decode cX5_odds 391 = .ok (.lload 8, 2) := by decide +kernel
theorem dX5_odds_393 : decode cX5_odds 393 = .ok (.aload_n 0, 1) := by decide +kernel
theorem dX5_odds_394 : decode cX5_odds 394 = .ok (.getfield 54, 3) := by decide +kernel
theorem dX5_odds_397 : decode cX5_odds 397 = .ok (.bipush 21, 2) := by decide +kernel
theorem dX5_odds_399 : decode cX5_odds 399 = .ok (.iload 7, 2) := by decide +kernel
theorem dX5_odds_401 : decode cX5_odds 401 = .ok (.imul, 1) := by decide +kernel
theorem dX5_odds_402 : decode cX5_odds 402 = .ok (.iload 6, 2) := by decide +kernel
theorem dX5_odds_404 : decode cX5_odds 404 = .ok (.iadd, 1) := by decide +kernel
theorem dX5_odds_405 : decode cX5_odds 405 = .ok (.laload, 1) := by decide +kernel
theorem dX5_odds_406 : decode cX5_odds 406 = .ok (.iload 5, 2) := by decide +kernel
theorem dX5_odds_408 : decode cX5_odds 408 = .ok (.invokestatic 119, 3) := by decide +kernel
theorem dX5_odds_411 : decode cX5_odds 411 = .ok (.lreturn, 1) := by decide +kernel
set_option maxRecDepth 20000 in
theorem ggX5_fresh_X5_in : GoodIn wsX5_fresh wsX5_in := goodIn_r _ [9] (by decide +kernel) (by decide +kernel)
set_option maxRecDepth 20000 in
theorem gX5_fresh_X5_in : GoodIn wsX5_fresh (va_wsS RX5 79 yX5_in wsX5_in) := goodIn_app (goodIn_of _ (by decide +kernel)) ggX5_fresh_X5_in
set_option maxRecDepth 20000 in
theorem ggX5_fresh_X5_areWindows : GoodIn wsX5_fresh wsX5_areWindows := goodIn_r _ [12, 13, 14, 8, 15] (by decide +kernel) (by decide +kernel)
set_option maxRecDepth 20000 in
theorem gX5_fresh_X5_areWindows : GoodIn wsX5_fresh (va_wsS RX5 145 yX5_areWindows wsX5_areWindows) := goodIn_app (goodIn_of _ (by decide +kernel)) ggX5_fresh_X5_areWindows
set_option maxRecDepth 20000 in
theorem ggX5_fresh_X5_counts : GoodIn wsX5_fresh wsX5_counts := goodIn_r _ [19, 20, 21, 5, 4, 22, 23, 24, 25, 26, 8, 27, 28, 29, 30, 31, 32, 33, 34, 35, 36, 37, 38, 39, 40, 41, 42, 43, 44, 45, 46, 47, 48, 49, 50, 51, 52, 53, 54, 55, 56, 57, 58] (by decide +kernel) (by decide +kernel)
set_option maxRecDepth 20000 in
theorem gX5_fresh_X5_counts : GoodIn wsX5_fresh (wsV RX5 148 RX5 yX5_counts wsX5_counts) := goodIn_app (goodIn_of _ (by decide +kernel)) ggX5_fresh_X5_counts
theorem dX5_fresh_0 : decode cX5_fresh 0 = .ok (.aload_n 0, 1) := by decide +kernel
theorem dX5_fresh_1 : decode cX5_fresh 1 = .ok (.iconst 0, 1) := by decide +kernel
theorem dX5_fresh_2 : decode cX5_fresh 2 = .ok (.putfield 75, 3) := by decide +kernel
theorem dX5_fresh_5 : decode cX5_fresh 5 = .ok (.iload_n 1, 1) := by decide +kernel
theorem dX5_fresh_6 : decode cX5_fresh 6 = .ok (.iconst 0, 1) := by decide +kernel
theorem dX5_fresh_7 : decode cX5_fresh 7 = .ok (.iconst 4, 1) := by decide +kernel
theorem dX5_fresh_8 : decode cX5_fresh 8 = .ok (.invokestatic 79, 3) := by decide +kernel
theorem dX5_fresh_11 : decode cX5_fresh 11 = .ok (.ifCond .ne 6, 3) := by decide +kernel
theorem dX5_fresh_14 : decode cX5_fresh 14 = .ok (.ldc 88, 2) := by decide +kernel
theorem dX5_fresh_16 : decode cX5_fresh 16 = .ok (.ireturn, 1) := by decide +kernel
theorem dX5_fresh_17 : decode cX5_fresh 17 = .ok (.iload_n 2, 1) := by decide +kernel
theorem dX5_fresh_18 : decode cX5_fresh 18 = .ok (.iload_n 3, 1) := by decide +kernel
theorem dX5_fresh_19 : decode cX5_fresh 19 = .ok (.iload 4, 2) := by decide +kernel
theorem dX5_fresh_21 : decode cX5_fresh 21 = .ok (.invokestatic 145, 3) := by decide +kernel
theorem dX5_fresh_24 : decode cX5_fresh 24 = .ok (.ifCond .eq 9, 3) := by decide +kernel
theorem dX5_fresh_27 : decode cX5_fresh 27 = .ok (.iload 5, 2) := by decide +kernel
theorem dX5_fresh_29 : decode cX5_fresh 29 = .ok (.iconst (-1), 1) := by decide +kernel
theorem dX5_fresh_30 : decode cX5_fresh 30 = .ok (.if_icmp .ge 6, 3) := by decide +kernel
theorem dX5_fresh_33 : decode cX5_fresh 33 = .ok (.ldc 83, 2) := by decide +kernel
theorem dX5_fresh_35 : decode cX5_fresh 35 = .ok (.ireturn, 1) := by decide +kernel
theorem dX5_fresh_36 : decode cX5_fresh 36 = .ok (.aload_n 0, 1) := by decide +kernel
theorem dX5_fresh_37 : decode cX5_fresh 37 = .ok (.iload_n 1, 1) := by decide +kernel
theorem dX5_fresh_38 : decode cX5_fresh 38 = .ok (.iload_n 2, 1) := by decide +kernel
theorem dX5_fresh_39 : decode cX5_fresh 39 = .ok (.iload_n 3, 1) := by decide +kernel
theorem dX5_fresh_40 : decode cX5_fresh 40 = .ok (.iload_n 3, 1) := by decide +kernel
theorem dX5_fresh_41 : decode cX5_fresh 41 = .ok (.iload 4, 2) := by decide +kernel
theorem dX5_fresh_43 : decode cX5_fresh 43 = .ok (.invokevirtual 148, 3) := by decide +kernel
theorem dX5_fresh_46 : decode cX5_fresh 46 = .ok (.iconst 0, 1) := by decide +kernel
theorem dX5_fresh_47 : decode cX5_fresh 47 = .ok (.istore 6, 2) := by decide +kernel
theorem dX5_fresh_49 : decode cX5_fresh 49 = .ok (.iconst 0, 1) := by decide +kernel
theorem dX5_fresh_50 : decode cX5_fresh 50 = .ok (.istore 7, 2) := by decide +kernel
theorem dX5_fresh_52 : decode cX5_fresh 52 = .ok (.iload 7, 2) := by decide +kernel
theorem dX5_fresh_54 : decode cX5_fresh 54 = .ok (.bipush 10, 2) := by decide +kernel
theorem dX5_fresh_56 : decode cX5_fresh 56 = .ok (.if_icmp .ge 42, 3) := by decide +kernel
theorem dX5_fresh_59 : decode cX5_fresh 59 = .ok (.aload_n 0, 1) := by decide +kernel
theorem dX5_fresh_60 : decode cX5_fresh 60 = .ok (.getfield 45, 3) := by decide +kernel
theorem dX5_fresh_63 : decode cX5_fresh 63 = .ok (.iload 7, 2) := by decide +kernel
theorem dX5_fresh_65 : decode cX5_fresh 65 = .ok (.iaload, 1) := by decide +kernel
theorem dX5_fresh_66 : decode cX5_fresh 66 = .ok (.ifCond .le 26, 3) := by decide +kernel
theorem dX5_fresh_69 : decode cX5_fresh 69 = .ok (.aload_n 0, 1) := by decide +kernel
theorem dX5_fresh_70 : decode cX5_fresh 70 = .ok (.getfield 42, 3) := by decide +kernel
theorem dX5_fresh_73 : decode cX5_fresh 73 = .ok (.iload 7, 2) := by decide +kernel
theorem dX5_fresh_75 : decode cX5_fresh 75 = .ok (.iaload, 1) := by decide +kernel
theorem dX5_fresh_76 : decode cX5_fresh 76 = .ok (.ifCond .ne 16, 3) := by decide +kernel
theorem dX5_fresh_79 : decode cX5_fresh 79 = .ok (.iload 6, 2) := by decide +kernel
theorem dX5_fresh_81 : decode cX5_fresh 81 = .ok (.iload 5, 2) := by decide +kernel
theorem dX5_fresh_83 : decode cX5_fresh 83 = .ok (.if_icmp .ne 6, 3) := by decide +kernel
theorem dX5_fresh_86 : decode cX5_fresh 86 = .ok (.iload 7, 2) := by decide +kernel
theorem dX5_fresh_88 : decode cX5_fresh 88 = .ok (.ireturn, 1) := by decide +kernel
theorem dX5_fresh_89 : decode cX5_fresh 89 = .ok (.iinc 6 1, 3) := by decide +kernel
theorem dX5_fresh_92 : decode cX5_fresh 92 = .ok (.iinc 7 1, 3) := by decide +kernel
theorem dX5_fresh_95 : decode cX5_fresh 95 = .ok (.goto (-43), 3) := by decide +kernel
theorem dX5_fresh_98 : decode cX5_fresh 98 = .ok (.iload 5, 2) := by decide +kernel
theorem dX5_fresh_100 : decode cX5_fresh 100 = .ok (.iconst (-1), 1) := by decide +kernel
theorem dX5_fresh_101 : decode cX5_fresh 101 = .ok (.if_icmp .ne 8, 3) := by decide +kernel
theorem dX5_fresh_104 : decode cX5_fresh 104 = .ok (.iload 6, 2) := by decide +kernel
theorem dX5_fresh_106 : decode cX5_fresh 106 = .ok (.goto 4, 3) := by decide +kernel
theorem dX5_fresh_109 : decode cX5_fresh 109 = .ok (.iconst (-1), 1) := by decide +kernel
theorem dX5_fresh_110 : decode cX5_fresh 110 = .ok (.ireturn, 1) := by decide +kernel
set_option maxRecDepth 20000 in
theorem ggX5_shift_X5_in : GoodIn wsX5_shift wsX5_in := goodIn_r _ [10] (by decide +kernel) (by decide +kernel)
set_option maxRecDepth 20000 in
theorem gX5_shift_X5_in : GoodIn wsX5_shift (va_wsS RX5 79 yX5_in wsX5_in) := goodIn_app (goodIn_of _ (by decide +kernel)) ggX5_shift_X5_in
set_option maxRecDepth 20000 in
theorem ggX5_shift_X5_areWindows : GoodIn wsX5_shift wsX5_areWindows := goodIn_r _ [13, 14, 15, 9, 16] (by decide +kernel) (by decide +kernel)
set_option maxRecDepth 20000 in
theorem gX5_shift_X5_areWindows : GoodIn wsX5_shift (va_wsS RX5 145 yX5_areWindows wsX5_areWindows) := goodIn_app (goodIn_of _ (by decide +kernel)) ggX5_shift_X5_areWindows
set_option maxRecDepth 20000 in
theorem ggX5_shift_X5_isIn : GoodIn wsX5_shift wsX5_isIn := goodIn_r _ [20, 21, 28, 29, 30, 31, 32, 33, 34, 35, 36, 37, 38, 39, 40, 41, 42, 43, 44, 45, 46, 47, 48, 49, 50, 51, 52, 53, 54, 55, 56, 57] (by decide +kernel) (by decide +kernel)
set_option maxRecDepth 20000 in
theorem gX5_shift_X5_isIn : GoodIn wsX5_shift (wsV RX5 127 RX5 yX5_isIn wsX5_isIn) := goodIn_app (goodIn_of _ (by decide +kernel)) ggX5_shift_X5_isIn
set_option maxRecDepth 20000 in
theorem ggX5_shift_X5_part : GoodIn wsX5_shift wsX5_part := goodIn_r _ [24, 25, 26, 9, 27] (by decide +kernel) (by decide +kernel)
set_option maxRecDepth 20000 in
theorem gX5_shift_X5_part : GoodIn wsX5_shift (va_wsS RX5 119 yX5_part wsX5_part) := goodIn_app (goodIn_of _ (by decide +kernel)) ggX5_shift_X5_part
theorem dX5_shift_0 : decode cX5_shift 0 = .ok (.aload_n 0, 1) := by decide +kernel
theorem dX5_shift_1 : decode cX5_shift 1 = .ok (.iconst 0, 1) := by decide +kernel
theorem dX5_shift_2 : decode cX5_shift 2 = .ok (.putfield 75, 3) := by decide +kernel
theorem dX5_shift_5 : decode cX5_shift 5 = .ok (.iload_n 1, 1) := by decide +kernel
theorem dX5_shift_6 : decode cX5_shift 6 = .ok (.iconst 0, 1) := by decide +kernel
theorem dX5_shift_7 : decode cX5_shift 7 = .ok (.iconst 4, 1) := by decide +kernel
theorem dX5_shift_8 : decode cX5_shift 8 = .ok (.invokestatic 79, 3) := by decide +kernel
theorem dX5_shift_11 : decode cX5_shift 11 = .ok (.ifCond .eq 17, 3) := by decide +kernel
theorem dX5_shift_14 : decode cX5_shift 14 = .ok (.iload_n 2, 1) := by decide +kernel
theorem dX5_shift_15 : decode cX5_shift 15 = .ok (.iconst 0, 1) := by decide +kernel
theorem dX5_shift_16 : decode cX5_shift 16 = .ok (.iconst 4, 1) := by decide +kernel
theorem dX5_shift_17 : decode cX5_shift 17 = .ok (.invokestatic 79, 3) := by decide +kernel
theorem dX5_shift_20 : decode cX5_shift 20 = .ok (.ifCond .eq 8, 3) := by decide +kernel
theorem dX5_shift_23 : decode cX5_shift 23 = .ok (.iload_n 1, 1) := by decide +kernel
theorem dX5_shift_24 : decode cX5_shift 24 = .ok (.iload_n 2, 1) := by decide +kernel
theorem dX5_shift_25 : decode cX5_shift 25 = .ok (.if_icmp .ne 7, 3) := by decide +kernel
theorem dX5_shift_28 : decode cX5_shift 28 = .ok (.ldc2_w 115, 3) := by decide +kernel
theorem dX5_shift_31 : decode cX5_shift 31 = .ok (.lreturn, 1) := by decide +kernel
theorem dX5_shift_32 : decode cX5_shift 32 = .ok (.iload_n 3, 1) := by decide +kernel
theorem dX5_shift_33 : decode cX5_shift 33 = .ok (.iload 4, 2) := by decide +kernel
theorem dX5_shift_35 : decode cX5_shift 35 = .ok (.iload 5, 2) := by decide +kernel
theorem dX5_shift_37 : decode cX5_shift 37 = .ok (.invokestatic 145, 3) := by decide +kernel
theorem dX5_shift_40 : decode cX5_shift 40 = .ok (.ifCond .eq 13, 3) := by decide +kernel
theorem dX5_shift_43 : decode cX5_shift 43 = .ok (.iload 6, 2) := by decide +kernel
theorem dX5_shift_45 : decode cX5_shift 45 = .ok (.iconst 0, 1) := by decide +kernel
theorem dX5_shift_46 : decode cX5_shift 46 = .ok (.iconst 1, 1) := by decide +kernel
theorem dX5_shift_47 : decode cX5_shift 47 = .ok (.invokestatic 79, 3) := by decide +kernel
theorem dX5_shift_50 : decode cX5_shift 50 = .ok (.ifCond .ne 7, 3) := by decide +kernel
theorem dX5_shift_53 : decode cX5_shift 53 = .ok (.ldc2_w 117, 3) := by decide +kernel
theorem dX5_shift_56 : decode cX5_shift 56 = .ok (.lreturn, 1) := by decide +kernel
theorem dX5_shift_57 : decode cX5_shift 57 = .ok (.lconst 0, 1) := by decide +kernel
theorem dX5_shift_58 : decode cX5_shift 58 = .ok (.lstore 7, 2) := by decide +kernel
theorem dX5_shift_60 : decode cX5_shift 60 = .ok (.lconst 0, 1) := by decide +kernel
theorem dX5_shift_61 : decode cX5_shift 61 = .ok (.lstore 9, 2) := by decide +kernel
theorem dX5_shift_63 : decode cX5_shift 63 = .ok (.lconst 0, 1) := by decide +kernel
theorem dX5_shift_64 : decode cX5_shift 64 = .ok (.lstore 11, 2) := by decide +kernel
theorem dX5_shift_66 : decode cX5_shift 66 = .ok (.lconst 0, 1) := by decide +kernel
theorem dX5_shift_67 : decode cX5_shift 67 = .ok (.lstore 13, 2) := by decide +kernel
theorem dX5_shift_69 : decode cX5_shift 69 = .ok (.lconst 0, 1) := by decide +kernel
theorem dX5_shift_70 : decode cX5_shift 70 = .ok (.lstore 15, 2) := by decide +kernel
theorem dX5_shift_72 : decode cX5_shift 72 = .ok (.lconst 0, 1) := by decide +kernel
theorem dX5_shift_73 : decode cX5_shift 73 = .ok (.lstore 17, 2) := by decide +kernel
theorem dX5_shift_75 : decode cX5_shift 75 = .ok (.iconst 0, 1) := by decide +kernel
theorem dX5_shift_76 : decode cX5_shift 76 = .ok (.istore 19, 2) := by decide +kernel
theorem dX5_shift_78 : decode cX5_shift 78 = .ok (.iload 19, 2) := by decide +kernel
theorem dX5_shift_80 : decode cX5_shift 80 = .ok (.aload_n 0, 1) := by decide +kernel
theorem dX5_shift_81 : decode cX5_shift 81 = .ok (.getfield 84, 3) := by decide +kernel
theorem dX5_shift_84 : decode cX5_shift 84 = .ok (.if_icmp .ge 152, 3) := by decide +kernel
theorem dX5_shift_87 : decode cX5_shift 87 = .ok (.aload_n 0, 1) := by decide +kernel
theorem dX5_shift_88 : decode cX5_shift 88 = .ok (.getfield 17, 3) := by decide +kernel
theorem dX5_shift_91 : decode cX5_shift 91 = .ok (.iconst 5, 1) := by decide +kernel
theorem dX5_shift_92 : decode cX5_shift 92 = .ok (.iload 19, 2) := by decide +kernel
theorem dX5_shift_94 : decode cX5_shift 94 = .ok (.imul, 1) := by decide +kernel
theorem dX5_shift_95 : decode cX5_shift 95 = .ok (.iload_n 2, 1) := by decide +kernel
theorem dX5_shift_96 : decode cX5_shift 96 = .ok (.iadd, 1) := by decide +kernel
theorem dX5_shift_97 : decode cX5_shift 97 = .ok (.iaload, 1) := by decide +kernel
theorem dX5_shift_98 : decode cX5_shift 98 = .ok (.istore 20, 2) := by decide +kernel
theorem dX5_shift_100 : decode cX5_shift 100 = .ok (.aload_n 0, 1) := by decide +kernel
theorem dX5_shift_101 : decode cX5_shift 101 = .ok (.getfield 17, 3) := by decide +kernel
theorem dX5_shift_104 : decode cX5_shift 104 = .ok (.iconst 5, 1) := by decide +kernel
theorem dX5_shift_105 : decode cX5_shift 105 = .ok (.iload 19, 2) := by decide +kernel
theorem dX5_shift_107 : decode cX5_shift 107 = .ok (.imul, 1) := by decide +kernel
theorem dX5_shift_108 : decode cX5_shift 108 = .ok (.iload_n 1, 1) := by decide +kernel
theorem dX5_shift_109 : decode cX5_shift 109 = .ok (.iadd, 1) := by decide +kernel
theorem dX5_shift_110 : decode cX5_shift 110 = .ok (.iaload, 1) := by decide +kernel
theorem dX5_shift_111 : decode cX5_shift 111 = .ok (.istore 21, 2) := by decide +kernel
theorem dX5_shift_113 : decode cX5_shift 113 = .ok (.iload 20, 2) := by decide +kernel
theorem dX5_shift_115 : decode cX5_shift 115 = .ok (.iconst 2, 1) := by decide +kernel
theorem dX5_shift_116 : decode cX5_shift 116 = .ok (.if_icmp .ge 81, 3) := by decide +kernel
theorem dX5_shift_119 : decode cX5_shift 119 = .ok (.aload_n 0, 1) := by decide +kernel
theorem dX5_shift_120 : decode cX5_shift 120 = .ok (.iload 19, 2) := by decide +kernel
theorem dX5_shift_122 : decode cX5_shift 122 = .ok (.iload_n 3, 1) := by decide +kernel
theorem dX5_shift_123 : decode cX5_shift 123 = .ok (.iload 4, 2) := by decide +kernel
theorem dX5_shift_125 : decode cX5_shift 125 = .ok (.invokevirtual 127, 3) := by decide +kernel
theorem dX5_shift_128 : decode cX5_shift 128 = .ok (.ifCond .eq 69, 3) := by decide +kernel
theorem dX5_shift_131 : decode cX5_shift 131 = .ok (.lload 7, 2) := by decide +kernel
theorem dX5_shift_133 : decode cX5_shift 133 = .ok (.iload 21, 2) := by decide +kernel
theorem dX5_shift_135 : decode cX5_shift 135 = .ok (.ifCond .ne 7, 3) := by decide +kernel
theorem dX5_shift_138 : decode cX5_shift 138 = .ok (.lconst 1, 1) := by decide +kernel
theorem dX5_shift_139 : decode cX5_shift 139 = .ok (.goto 4, 3) := by decide +kernel
theorem dX5_shift_142 : decode cX5_shift 142 = .ok (.lconst 0, 1) := by decide +kernel
theorem dX5_shift_143 : decode cX5_shift 143 = .ok (.ladd, 1) := by decide +kernel
theorem dX5_shift_144 : decode cX5_shift 144 = .ok (.lstore 7, 2) := by decide +kernel
theorem dX5_shift_146 : decode cX5_shift 146 = .ok (.lload 9, 2) := by decide +kernel
theorem dX5_shift_148 : decode cX5_shift 148 = .ok (.iload 21, 2) := by decide +kernel
theorem dX5_shift_150 : decode cX5_shift 150 = .ok (.ifCond .ne 9, 3) := by decide +kernel
theorem dX5_shift_153 : decode cX5_shift 153 = .ok (.iload 20, 2) := by decide +kernel
theorem dX5_shift_155 : decode cX5_shift 155 = .ok (.i2l, 1) := by decide +kernel
theorem dX5_shift_156 : decode cX5_shift 156 = .ok (.goto 4, 3) := by decide +kernel
theorem dX5_shift_159 : decode cX5_shift 159 = .ok (.lconst 0, 1) := by decide +kernel
theorem dX5_shift_160 : decode cX5_shift 160 = .ok (.ladd, 1) := by decide +kernel
theorem dX5_shift_161 : decode cX5_shift 161 = .ok (.lstore 9, 2) := by decide +kernel
theorem dX5_shift_163 : decode cX5_shift 163 = .ok (.lload 11, 2) := by decide +kernel
theorem dX5_shift_165 : decode cX5_shift 165 = .ok (.iload 21, 2) := by decide +kernel
theorem dX5_shift_167 : decode cX5_shift 167 = .ok (.iconst 1, 1) := by decide +kernel
theorem dX5_shift_168 : decode cX5_shift 168 = .ok (.if_icmp .ne 7, 3) := by decide +kernel
theorem dX5_shift_171 : decode cX5_shift 171 = .ok (.lconst 1, 1) := by decide +kernel
theorem dX5_shift_172 : decode cX5_shift 172 = .ok (.goto 4, 3) := by decide +kernel
theorem dX5_shift_175 : decode cX5_shift 175 = .ok (.lconst 0, 1) := by decide +kernel
theorem dX5_shift_176 : decode cX5_shift 176 = .ok (.ladd, 1) := by decide +kernel
theorem dX5_shift_177 : decode cX5_shift 177 = .ok (.lstore 11, 2) := by decide +kernel
theorem dX5_shift_179 : decode cX5_shift 179 = .ok (.lload 13, 2) := by decide +kernel
theorem dX5_shift_181 : decode cX5_shift 181 = .ok (.iload 21, 2) := by decide +kernel
theorem dX5_shift_183 : decode cX5_shift 183 = .ok (.iconst 1, 1) := by decide +kernel
theorem dX5_shift_184 : decode cX5_shift 184 = .ok (.if_icmp .ne 9, 3) := by decide +kernel
