theorem dX5_init_0 : decode cX5_init 0 = .ok (.aload_n 0, 1) := by decide +kernel
theorem dX5_init_1 : decode cX5_init 1 = .ok (.invokespecial 1, 3) := by decide +kernel
theorem dX5_init_4 : decode cX5_init 4 = .ok (.aload_n 0, 1) := by decide +kernel
theorem dX5_init_5 : decode cX5_init 5 = .ok (.bipush 48, 2) := by decide +kernel
theorem dX5_init_7 : decode cX5_init 7 = .ok (.newarray .int, 2) := by decide +kernel
theorem dX5_init_9 : decode cX5_init 9 = .ok (.putfield 7, 3) := by decide +kernel
theorem dX5_init_12 : decode cX5_init 12 = .ok (.aload_n 0, 1) := by decide +kernel
theorem dX5_init_13 : decode cX5_init 13 = .ok (.bipush 48, 2) := by decide +kernel
theorem dX5_init_15 : decode cX5_init 15 = .ok (.newarray .boolean, 2) := by decide +kernel
theorem dX5_init_17 : decode cX5_init 17 = .ok (.putfield 13, 3) := by decide +kernel
theorem dX5_init_20 : decode cX5_init 20 = .ok (.aload_n 0, 1) := by decide +kernel
theorem dX5_init_21 : decode cX5_init 21 = .ok (.sipush 240, 3) := by decide +kernel
theorem dX5_init_24 : decode cX5_init 24 = .ok (.newarray .int, 2) := by decide +kernel
theorem dX5_init_26 : decode cX5_init 26 = .ok (.putfield 17, 3) := by decide +kernel
theorem dX5_init_29 : decode cX5_init 29 = .ok (.aload_n 0, 1) := by decide +kernel
theorem dX5_init_30 : decode cX5_init 30 = .ok (.sipush 700, 3) := by decide +kernel
theorem dX5_init_33 : decode cX5_init 33 = .ok (.newarray .int, 2) := by decide +kernel
theorem dX5_init_35 : decode cX5_init 35 = .ok (.putfield 20, 3) := by decide +kernel
theorem dX5_init_38 : decode cX5_init 38 = .ok (.aload_n 0, 1) := by decide +kernel
theorem dX5_init_39 : decode cX5_init 39 = .ok (.sipush 700, 3) := by decide +kernel
theorem dX5_init_42 : decode cX5_init 42 = .ok (.newarray .int, 2) := by decide +kernel
theorem dX5_init_44 : decode cX5_init 44 = .ok (.putfield 23, 3) := by decide +kernel
theorem dX5_init_47 : decode cX5_init 47 = .ok (.aload_n 0, 1) := by decide +kernel
theorem dX5_init_48 : decode cX5_init 48 = .ok (.sipush 700, 3) := by decide +kernel
theorem dX5_init_51 : decode cX5_init 51 = .ok (.newarray .int, 2) := by decide +kernel
theorem dX5_init_53 : decode cX5_init 53 = .ok (.putfield 26, 3) := by decide +kernel
theorem dX5_init_56 : decode cX5_init 56 = .ok (.aload_n 0, 1) := by decide +kernel
theorem dX5_init_57 : decode cX5_init 57 = .ok (.sipush 700, 3) := by decide +kernel
theorem dX5_init_60 : decode cX5_init 60 = .ok (.newarray .int, 2) := by decide +kernel
theorem dX5_init_62 : decode cX5_init 62 = .ok (.putfield 29, 3) := by decide +kernel
theorem dX5_init_65 : decode cX5_init 65 = .ok (.aload_n 0, 1) := by decide +kernel
theorem dX5_init_66 : decode cX5_init 66 = .ok (.sipush 700, 3) := by decide +kernel
theorem dX5_init_69 : decode cX5_init 69 = .ok (.newarray .long, 2) := by decide +kernel
theorem dX5_init_71 : decode cX5_init 71 = .ok (.putfield 32, 3) := by decide +kernel
theorem dX5_init_74 : decode cX5_init 74 = .ok (.aload_n 0, 1) := by decide +kernel
theorem dX5_init_75 : decode cX5_init 75 = .ok (.sipush 700, 3) := by decide +kernel
theorem dX5_init_78 : decode cX5_init 78 = .ok (.newarray .int, 2) := by decide +kernel
theorem dX5_init_80 : decode cX5_init 80 = .ok (.putfield 36, 3) := by decide +kernel
theorem dX5_init_83 : decode cX5_init 83 = .ok (.aload_n 0, 1) := by decide +kernel
theorem dX5_init_84 : decode cX5_init 84 = .ok (.sipush 700, 3) := by decide +kernel
theorem dX5_init_87 : decode cX5_init 87 = .ok (.newarray .int, 2) := by decide +kernel
theorem dX5_init_89 : decode cX5_init 89 = .ok (.putfield 39, 3) := by decide +kernel
theorem dX5_init_92 : decode cX5_init 92 = .ok (.aload_n 0, 1) := by decide +kernel
theorem dX5_init_93 : decode cX5_init 93 = .ok (.bipush 11, 2) := by decide +kernel
theorem dX5_init_95 : decode cX5_init 95 = .ok (.newarray .int, 2) := by decide +kernel
theorem dX5_init_97 : decode cX5_init 97 = .ok (.putfield 42, 3) := by decide +kernel
theorem dX5_init_100 : decode cX5_init 100 = .ok (.aload_n 0, 1) := by decide +kernel
theorem dX5_init_101 : decode cX5_init 101 = .ok (.bipush 11, 2) := by decide +kernel
theorem dX5_init_103 : decode cX5_init 103 = .ok (.newarray .int, 2) := by decide +kernel
theorem dX5_init_105 : decode cX5_init 105 = .ok (.putfield 45, 3) := by decide +kernel
theorem dX5_init_108 : decode cX5_init 108 = .ok (.aload_n 0, 1) := by decide +kernel
theorem dX5_init_109 : decode cX5_init 109 = .ok (.sipush 8421, 3) := by decide +kernel
theorem dX5_init_112 : decode cX5_init 112 = .ok (.newarray .long, 2) := by decide +kernel
theorem dX5_init_114 : decode cX5_init 114 = .ok (.putfield 48, 3) := by decide +kernel
theorem dX5_init_117 : decode cX5_init 117 = .ok (.aload_n 0, 1) := by decide +kernel
theorem dX5_init_118 : decode cX5_init 118 = .ok (.sipush 8421, 3) := by decide +kernel
theorem dX5_init_121 : decode cX5_init 121 = .ok (.newarray .long, 2) := by decide +kernel
theorem dX5_init_123 : decode cX5_init 123 = .ok (.putfield 51, 3) := by decide +kernel
theorem dX5_init_126 : decode cX5_init 126 = .ok (.aload_n 0, 1) := by decide +kernel
theorem dX5_init_127 : decode cX5_init 127 = .ok (.sipush 441, 3) := by decide +kernel
theorem dX5_init_130 : decode cX5_init 130 = .ok (.newarray .long, 2) := by decide +kernel
theorem dX5_init_132 : decode cX5_init 132 = .ok (.putfield 54, 3) := by decide +kernel
theorem dX5_init_135 : decode cX5_init 135 = .ok (.aload_n 0, 1) := by decide +kernel
theorem dX5_init_136 : decode cX5_init 136 = .ok (.iconst 5, 1) := by decide +kernel
theorem dX5_init_137 : decode cX5_init 137 = .ok (.newarray .long, 2) := by decide +kernel
theorem dX5_init_139 : decode cX5_init 139 = .ok (.putfield 57, 3) := by decide +kernel
theorem dX5_init_142 : decode cX5_init 142 = .ok (.aload_n 0, 1) := by decide +kernel
theorem dX5_init_143 : decode cX5_init 143 = .ok (.iconst 5, 1) := by decide +kernel
theorem dX5_init_144 : decode cX5_init 144 = .ok (.newarray .int, 2) := by decide +kernel
theorem dX5_init_146 : decode cX5_init 146 = .ok (.putfield 60, 3) := by decide +kernel
theorem dX5_init_149 : decode cX5_init 149 = .ok (.aload_n 0, 1) := by decide +kernel
theorem dX5_init_150 : decode cX5_init 150 = .ok (.bipush 100, 2) := by decide +kernel
theorem dX5_init_152 : decode cX5_init 152 = .ok (.newarray .boolean, 2) := by decide +kernel
theorem dX5_init_154 : decode cX5_init 154 = .ok (.putfield 63, 3) := by decide +kernel
theorem dX5_init_157 : decode cX5_init 157 = .ok (.aload_n 0, 1) := by decide +kernel
theorem dX5_init_158 : decode cX5_init 158 = .ok (.bipush 100, 2) := by decide +kernel
theorem dX5_init_160 : decode cX5_init 160 = .ok (.newarray .boolean, 2) := by decide +kernel
theorem dX5_init_162 : decode cX5_init 162 = .ok (.putfield 66, 3) := by decide +kernel
theorem dX5_init_165 : decode cX5_init 165 = .ok (.aload_n 0, 1) := by decide +kernel
theorem dX5_init_166 : decode cX5_init 166 = .ok (.bipush 100, 2) := by decide +kernel
theorem dX5_init_168 : decode cX5_init 168 = .ok (.newarray .int, 2) := by decide +kernel
theorem dX5_init_170 : decode cX5_init 170 = .ok (.putfield 69, 3) := by decide +kernel
theorem dX5_init_173 : decode cX5_init 173 = .ok (.aload_n 0, 1) := by decide +kernel
theorem dX5_init_174 : decode cX5_init 174 = .ok (.bipush 100, 2) := by decide +kernel
theorem dX5_init_176 : decode cX5_init 176 = .ok (.newarray .int, 2) := by decide +kernel
theorem dX5_init_178 : decode cX5_init 178 = .ok (.putfield 72, 3) := by decide +kernel
theorem dX5_init_181 : decode cX5_init 181 = .ok (.return_, 1) := by decide +kernel
theorem dX5_thrown_0 : decode cX5_thrown 0 = .ok (.aload_n 0, 1) := by decide +kernel
theorem dX5_thrown_1 : decode cX5_thrown 1 = .ok (.getfield 75, 3) := by decide +kernel
theorem dX5_thrown_4 : decode cX5_thrown 4 = .ok (.ireturn, 1) := by decide +kernel
theorem dX5_in_0 : decode cX5_in 0 = .ok (.iload_n 0, 1) := by decide +kernel
theorem dX5_in_1 : decode cX5_in 1 = .ok (.iload_n 1, 1) := by decide +kernel
theorem dX5_in_2 : decode cX5_in 2 = .ok (.if_icmp .lt 12, 3) := by decide +kernel
theorem dX5_in_5 : decode cX5_in 5 = .ok (.iload_n 0, 1) := by decide +kernel
theorem dX5_in_6 : decode cX5_in 6 = .ok (.iload_n 2, 1) := by decide +kernel
theorem dX5_in_7 : decode cX5_in 7 = .ok (.if_icmp .gt 7, 3) := by decide +kernel
theorem dX5_in_10 : decode cX5_in 10 = .ok (.iconst 1, 1) := by decide +kernel
theorem dX5_in_11 : decode cX5_in 11 = .ok (.goto 4, 3) := by decide +kernel
theorem dX5_in_14 : decode cX5_in 14 = .ok (.iconst 0, 1) := by decide +kernel
theorem dX5_in_15 : decode cX5_in 15 = .ok (.ireturn, 1) := by decide +kernel
set_option maxRecDepth 20000 in
theorem ggX5_row_X5_in : GoodIn wsX5_row wsX5_in := goodIn_r _ [11] (by decide +kernel) (by decide +kernel)
set_option maxRecDepth 20000 in
theorem gX5_row_X5_in : GoodIn wsX5_row (va_wsS RX5 79 yX5_in wsX5_in) := goodIn_app (goodIn_of _ (by decide +kernel)) ggX5_row_X5_in
theorem dX5_row_0 : decode cX5_row 0 = .ok (.aload_n 0, 1) := by decide +kernel
theorem dX5_row_1 : decode cX5_row 1 = .ok (.iconst 0, 1) := by decide +kernel
theorem dX5_row_2 : decode cX5_row 2 = .ok (.putfield 75, 3) := by decide +kernel
theorem dX5_row_5 : decode cX5_row 5 = .ok (.iload_n 1, 1) := by decide +kernel
theorem dX5_row_6 : decode cX5_row 6 = .ok (.iconst 0, 1) := by decide +kernel
theorem dX5_row_7 : decode cX5_row 7 = .ok (.sipush 999, 3) := by decide +kernel
theorem dX5_row_10 : decode cX5_row 10 = .ok (.invokestatic 79, 3) := by decide +kernel
theorem dX5_row_13 : decode cX5_row 13 = .ok (.ifCond .ne 6, 3) := by decide +kernel
theorem dX5_row_16 : decode cX5_row 16 = .ok (.ldc 83, 2) := by decide +kernel
theorem dX5_row_18 : decode cX5_row 18 = .ok (.ireturn, 1) := by decide +kernel
theorem dX5_row_19 : decode cX5_row 19 = .ok (.aload_n 0, 1) := by decide +kernel
theorem dX5_row_20 : decode cX5_row 20 = .ok (.getfield 84, 3) := by decide +kernel
theorem dX5_row_23 : decode cX5_row 23 = .ok (.bipush 48, 2) := by decide +kernel
theorem dX5_row_25 : decode cX5_row 25 = .ok (.if_icmp .ne 6, 3) := by decide +kernel
theorem dX5_row_28 : decode cX5_row 28 = .ok (.ldc 87, 2) := by decide +kernel
theorem dX5_row_30 : decode cX5_row 30 = .ok (.ireturn, 1) := by decide +kernel
theorem dX5_row_31 : decode cX5_row 31 = .ok (.aload_n 0, 1) := by decide +kernel
theorem dX5_row_32 : decode cX5_row 32 = .ok (.getfield 7, 3) := by decide +kernel
theorem dX5_row_35 : decode cX5_row 35 = .ok (.aload_n 0, 1) := by decide +kernel
theorem dX5_row_36 : decode cX5_row 36 = .ok (.getfield 84, 3) := by decide +kernel
theorem dX5_row_39 : decode cX5_row 39 = .ok (.iload_n 1, 1) := by decide +kernel
theorem dX5_row_40 : decode cX5_row 40 = .ok (.iastore, 1) := by decide +kernel
theorem dX5_row_41 : decode cX5_row 41 = .ok (.aload_n 0, 1) := by decide +kernel
theorem dX5_row_42 : decode cX5_row 42 = .ok (.getfield 13, 3) := by decide +kernel
theorem dX5_row_45 : decode cX5_row 45 = .ok (.aload_n 0, 1) := by decide +kernel
theorem dX5_row_46 : decode cX5_row 46 = .ok (.getfield 84, 3) := by decide +kernel
theorem dX5_row_49 : decode cX5_row 49 = .ok (.iload_n 2, 1) := by decide +kernel
theorem dX5_row_50 : decode cX5_row 50 = .ok (.bastore, 1) := by decide +kernel
theorem dX5_row_51 : decode cX5_row 51 = .ok (.iconst 0, 1) := by decide +kernel
theorem dX5_row_52 : decode cX5_row 52 = .ok (.istore_n 3, 1) := by decide +kernel
theorem dX5_row_53 : decode cX5_row 53 = .ok (.iload_n 3, 1) := by decide +kernel
theorem dX5_row_54 : decode cX5_row 54 = .ok (.iconst 5, 1) := by decide +kernel
theorem dX5_row_55 : decode cX5_row 55 = .ok (.if_icmp .ge 24, 3) := by decide +kernel
theorem dX5_row_58 : decode cX5_row 58 = .ok (.aload_n 0, 1) := by decide +kernel
theorem dX5_row_59 : decode cX5_row 59 = .ok (.getfield 17, 3) := by decide +kernel
theorem dX5_row_62 : decode cX5_row 62 = .ok (.iconst 5, 1) := by decide +kernel
theorem dX5_row_63 : decode cX5_row 63 = .ok (.aload_n 0, 1) := by decide +kernel
theorem dX5_row_64 : decode cX5_row 64 = .ok (.getfield 84, 3) := by decide +kernel
theorem dX5_row_67 : decode cX5_row 67 = .ok (.imul, 1) := by decide +kernel
theorem dX5_row_68 : decode cX5_row 68 = .ok (.iload_n 3, 1) := by decide +kernel
theorem dX5_row_69 : decode cX5_row 69 = .ok (.iadd, 1) := by decide +kernel
theorem dX5_row_70 : decode cX5_row 70 = .ok (.bipush 10, 2) := by decide +kernel
theorem dX5_row_72 : decode cX5_row 72 = .ok (.iastore, 1) := by decide +kernel
theorem dX5_row_73 : decode cX5_row 73 = .ok (.iinc 3 1, 3) := by decide +kernel
theorem dX5_row_76 : decode cX5_row 76 = .ok (.goto (-23), 3) := by decide +kernel
theorem dX5_row_79 : decode cX5_row 79 = .ok (.aload_n 0, 1) := by decide +kernel
theorem dX5_row_80 : decode cX5_row 80 = .ok (.dup, 1) := by decide +kernel
theorem dX5_row_81 : decode cX5_row 81 = .ok (.getfield 84, 3) := by decide +kernel
theorem dX5_row_84 : decode cX5_row 84 = .ok (.iconst 1, 1) := by decide +kernel
theorem dX5_row_85 : decode cX5_row 85 = .ok (.iadd, 1) := by decide +kernel
theorem dX5_row_86 : decode cX5_row 86 = .ok (.putfield 84, 3) := by decide +kernel
theorem dX5_row_89 : decode cX5_row 89 = .ok (.aload_n 0, 1) := by decide +kernel
theorem dX5_row_90 : decode cX5_row 90 = .ok (.getfield 84, 3) := by decide +kernel
theorem dX5_row_93 : decode cX5_row 93 = .ok (.iconst 1, 1) := by decide +kernel
theorem dX5_row_94 : decode cX5_row 94 = .ok (.isub, 1) := by decide +kernel
theorem dX5_row_95 : decode cX5_row 95 = .ok (.ireturn, 1) := by decide +kernel
set_option maxRecDepth 20000 in
theorem ggX5_put_X5_in : GoodIn wsX5_put wsX5_in := goodIn_r _ [9] (by decide +kernel) (by decide +kernel)
set_option maxRecDepth 20000 in
theorem gX5_put_X5_in : GoodIn wsX5_put (va_wsS RX5 79 yX5_in wsX5_in) := goodIn_app (goodIn_of _ (by decide +kernel)) ggX5_put_X5_in
theorem dX5_put_0 : decode cX5_put 0 = .ok (.aload_n 0, 1) := by decide +kernel
theorem dX5_put_1 : decode cX5_put 1 = .ok (.iconst 0, 1) := by decide +kernel
theorem dX5_put_2 : decode cX5_put 2 = .ok (.putfield 75, 3) := by decide +kernel
theorem dX5_put_5 : decode cX5_put 5 = .ok (.iload_n 1, 1) := by decide +kernel
theorem dX5_put_6 : decode cX5_put 6 = .ok (.iconst 0, 1) := by decide +kernel
theorem dX5_put_7 : decode cX5_put 7 = .ok (.aload_n 0, 1) := by decide +kernel
theorem dX5_put_8 : decode cX5_put 8 = .ok (.getfield 84, 3) := by decide +kernel
theorem dX5_put_11 : decode cX5_put 11 = .ok (.iconst 1, 1) := by decide +kernel
theorem dX5_put_12 : decode cX5_put 12 = .ok (.isub, 1) := by decide +kernel
theorem dX5_put_13 : decode cX5_put 13 = .ok (.invokestatic 79, 3) := by decide +kernel
theorem dX5_put_16 : decode cX5_put 16 = .ok (.ifCond .eq 12, 3) := by decide +kernel
theorem dX5_put_19 : decode cX5_put 19 = .ok (.iload_n 2, 1) := by decide +kernel
theorem dX5_put_20 : decode cX5_put 20 = .ok (.iconst 0, 1) := by decide +kernel
theorem dX5_put_21 : decode cX5_put 21 = .ok (.iconst 4, 1) := by decide +kernel
theorem dX5_put_22 : decode cX5_put 22 = .ok (.invokestatic 79, 3) := by decide +kernel
theorem dX5_put_25 : decode cX5_put 25 = .ok (.ifCond .ne 6, 3) := by decide +kernel
theorem dX5_put_28 : decode cX5_put 28 = .ok (.ldc 88, 2) := by decide +kernel
theorem dX5_put_30 : decode cX5_put 30 = .ok (.ireturn, 1) := by decide +kernel
theorem dX5_put_31 : decode cX5_put 31 = .ok (.iload_n 3, 1) := by decide +kernel
theorem dX5_put_32 : decode cX5_put 32 = .ok (.iconst (-1), 1) := by decide +kernel
theorem dX5_put_33 : decode cX5_put 33 = .ok (.bipush 9, 2) := by decide +kernel
theorem dX5_put_35 : decode cX5_put 35 = .ok (.invokestatic 79, 3) := by decide +kernel
theorem dX5_put_38 : decode cX5_put 38 = .ok (.ifCond .ne 6, 3) := by decide +kernel
theorem dX5_put_41 : decode cX5_put 41 = .ok (.ldc 83, 2) := by decide +kernel
theorem dX5_put_43 : decode cX5_put 43 = .ok (.ireturn, 1) := by decide +kernel
theorem dX5_put_44 : decode cX5_put 44 = .ok (.aload_n 0, 1) := by decide +kernel
theorem dX5_put_45 : decode cX5_put 45 = .ok (.getfield 17, 3) := by decide +kernel
theorem dX5_put_48 : decode cX5_put 48 = .ok (.iconst 5, 1) := by decide +kernel
theorem dX5_put_49 : decode cX5_put 49 = .ok (.iload_n 1, 1) := by decide +kernel
theorem dX5_put_50 : decode cX5_put 50 = .ok (.imul, 1) := by decide +kernel
theorem dX5_put_51 : decode cX5_put 51 = .ok (.iload_n 2, 1) := by decide +kernel
theorem dX5_put_52 : decode cX5_put 52 = .ok (.iadd, 1) := by decide +kernel
theorem dX5_put_53 : decode cX5_put 53 = .ok (.iaload, 1) := by decide +kernel
theorem dX5_put_54 : decode cX5_put 54 = .ok (.istore 4, 2) := by decide +kernel
theorem dX5_put_56 : decode cX5_put 56 = .ok (.aload_n 0, 1) := by decide +kernel
theorem dX5_put_57 : decode cX5_put 57 = .ok (.getfield 17, 3) := by decide +kernel
theorem dX5_put_60 : decode cX5_put 60 = .ok (.iconst 5, 1) := by decide +kernel
theorem dX5_put_61 : decode cX5_put 61 = .ok (.iload_n 1, 1) := by decide +kernel
theorem dX5_put_62 : decode cX5_put 62 = .ok (.imul, 1) := by decide +kernel
theorem dX5_put_63 : decode cX5_put 63 = .ok (.iload_n 2, 1) := by decide +kernel
theorem dX5_put_64 : decode cX5_put 64 = .ok (.iadd, 1) := by decide +kernel
theorem dX5_put_65 : decode cX5_put 65 = .ok (.iload_n 3, 1) := by decide +kernel
theorem dX5_put_66 : decode cX5_put 66 = .ok (.iconst (-1), 1) := by decide +kernel
theorem dX5_put_67 : decode cX5_put 67 = .ok (.if_icmp .ne 8, 3) := by decide +kernel
theorem dX5_put_70 : decode cX5_put 70 = .ok (.bipush 10, 2) := by decide +kernel
theorem dX5_put_72 : decode cX5_put 72 = .ok (.goto 4, 3) := by decide +kernel
theorem dX5_put_75 : decode cX5_put 75 = .ok (.iload_n 3, 1) := by decide +kernel
theorem dX5_put_76 : decode cX5_put 76 = .ok (.iastore, 1) := by decide +kernel
theorem dX5_put_77 : decode cX5_put 77 = .ok (.iload 4, 2) := by decide +kernel
theorem dX5_put_79 : decode cX5_put 79 = .ok (.ireturn, 1) := by decide +kernel
set_option maxRecDepth 20000 in
theorem ggX5_of_X5_in : GoodIn wsX5_of wsX5_in := goodIn_r _ [10] (by decide +kernel) (by decide +kernel)
set_option maxRecDepth 20000 in
theorem gX5_of_X5_in : GoodIn wsX5_of (va_wsS RX5 79 yX5_in wsX5_in) := goodIn_app (goodIn_of _ (by decide +kernel)) ggX5_of_X5_in
theorem dX5_of_0 : decode cX5_of 0 = .ok (.aload_n 0, 1) := by decide +kernel
theorem dX5_of_1 : decode cX5_of 1 = .ok (.iconst 0, 1) := by decide +kernel
theorem dX5_of_2 : decode cX5_of 2 = .ok (.putfield 75, 3) := by decide +kernel
theorem dX5_of_5 : decode cX5_of 5 = .ok (.iload_n 1, 1) := by decide +kernel
theorem dX5_of_6 : decode cX5_of 6 = .ok (.iconst 0, 1) := by decide +kernel
theorem dX5_of_7 : decode cX5_of 7 = .ok (.aload_n 0, 1) := by decide +kernel
theorem dX5_of_8 : decode cX5_of 8 = .ok (.getfield 84, 3) := by decide +kernel
theorem dX5_of_11 : decode cX5_of 11 = .ok (.iconst 1, 1) := by decide +kernel
theorem dX5_of_12 : decode cX5_of 12 = .ok (.isub, 1) := by decide +kernel
theorem dX5_of_13 : decode cX5_of 13 = .ok (.invokestatic 79, 3) := by decide +kernel
theorem dX5_of_16 : decode cX5_of 16 = .ok (.ifCond .eq 13, 3) := by decide +kernel
theorem dX5_of_19 : decode cX5_of 19 = .ok (.iload_n 2, 1) := by decide +kernel
theorem dX5_of_20 : decode cX5_of 20 = .ok (.iconst 0, 1) := by decide +kernel
theorem dX5_of_21 : decode cX5_of 21 = .ok (.bipush 6, 2) := by decide +kernel
theorem dX5_of_23 : decode cX5_of 23 = .ok (.invokestatic 79, 3) := by decide +kernel
theorem dX5_of_26 : decode cX5_of 26 = .ok (.ifCond .ne 6, 3) := by decide +kernel
theorem dX5_of_29 : decode cX5_of 29 = .ok (.ldc 88, 2) := by decide +kernel
theorem dX5_of_31 : decode cX5_of 31 = .ok (.ireturn, 1) := by decide +kernel
theorem dX5_of_32 : decode cX5_of 32 = .ok (.iload_n 2, 1) := by decide +kernel
theorem dX5_of_33 : decode cX5_of 33 = .ok (.iconst 5, 1) := by decide +kernel
theorem dX5_of_34 : decode cX5_of 34 = .ok (.if_icmp .ge 16, 3) := by decide +kernel
theorem dX5_of_37 : decode cX5_of 37 = .ok (.aload_n 0, 1) := by decide +kernel
theorem dX5_of_38 : decode cX5_of 38 = .ok (.getfield 17, 3) := by decide +kernel
theorem dX5_of_41 : decode cX5_of 41 = .ok (.iconst 5, 1) := by decide +kernel
theorem dX5_of_42 : decode cX5_of 42 = .ok (.iload_n 1, 1) := by decide +kernel
theorem dX5_of_43 : decode cX5_of 43 = .ok (.imul, 1) := by decide +kernel
theorem dX5_of_44 : decode cX5_of 44 = .ok (.iload_n 2, 1) := by decide +kernel
theorem dX5_of_45 : decode cX5_of 45 = .ok (.iadd, 1) := by decide +kernel
theorem dX5_of_46 : decode cX5_of 46 = .ok (.iaload, 1) := by decide +kernel
theorem dX5_of_47 : decode cX5_of 47 = .ok (.goto 31, 3) := by decide +kernel
theorem dX5_of_50 : decode cX5_of 50 = .ok (.iload_n 2, 1) := by decide +kernel
theorem dX5_of_51 : decode cX5_of 51 = .ok (.iconst 5, 1) := by decide +kernel
theorem dX5_of_52 : decode cX5_of 52 = .ok (.if_icmp .ne 12, 3) := by decide +kernel
theorem dX5_of_55 : decode cX5_of 55 = .ok (.aload_n 0, 1) := by decide +kernel
theorem dX5_of_56 : decode cX5_of 56 = .ok (.getfield 7, 3) := by decide +kernel
theorem dX5_of_59 : decode cX5_of 59 = .ok (.iload_n 1, 1) := by decide +kernel
theorem dX5_of_60 : decode cX5_of 60 = .ok (.iaload, 1) := by decide +kernel
theorem dX5_of_61 : decode cX5_of 61 = .ok (.goto 17, 3) := by decide +kernel
theorem dX5_of_64 : decode cX5_of 64 = .ok (.aload_n 0, 1) := by decide +kernel
theorem dX5_of_65 : decode cX5_of 65 = .ok (.getfield 13, 3) := by decide +kernel
theorem dX5_of_68 : decode cX5_of 68 = .ok (.iload_n 1, 1) := by decide +kernel
theorem dX5_of_69 : decode cX5_of 69 = .ok (.baload, 1) := by decide +kernel
theorem dX5_of_70 : decode cX5_of 70 = .ok (.ifCond .eq 7, 3) := by decide +kernel
theorem dX5_of_73 : decode cX5_of 73 = .ok (.iconst 1, 1) := by decide +kernel
theorem dX5_of_74 : decode cX5_of 74 = .ok (.goto 4, 3) := by decide +kernel
theorem dX5_of_77 : decode cX5_of 77 = .ok (.iconst 0, 1) := by decide +kernel
theorem dX5_of_78 : decode cX5_of 78 = .ok (.ireturn, 1) := by decide +kernel
theorem dX5_gcd_0 : decode cX5_gcd 0 = .ok (.lload_n 0, 1) := by decide +kernel
theorem dX5_gcd_1 : decode cX5_gcd 1 = .ok (.lconst 0, 1) := by decide +kernel
theorem dX5_gcd_2 : decode cX5_gcd 2 = .ok (.lcmp, 1) := by decide +kernel
theorem dX5_gcd_3 : decode cX5_gcd 3 = .ok (.ifCond .ge 8, 3) := by decide +kernel
theorem dX5_gcd_6 : decode cX5_gcd 6 = .ok (.lload_n 0, 1) := by decide +kernel
theorem dX5_gcd_7 : decode cX5_gcd 7 = .ok (.lneg, 1) := by decide +kernel
theorem dX5_gcd_8 : decode cX5_gcd 8 = .ok (.goto 4, 3) := by decide +kernel
theorem dX5_gcd_11 : decode cX5_gcd 11 = .ok (.lload_n 0, 1) := by decide +kernel
theorem dX5_gcd_12 : decode cX5_gcd 12 = .ok (.lstore 4, 2) := by decide +kernel
theorem dX5_gcd_14 : decode cX5_gcd 14 = .ok (.lload_n 2, 1) := by decide +kernel
theorem dX5_gcd_15 : decode cX5_gcd 15 = .ok (.lstore 6, 2) := by decide +kernel
theorem dX5_gcd_17 : decode cX5_gcd 17 = .ok (.lload 6, 2) := by decide +kernel
theorem dX5_gcd_19 : decode cX5_gcd 19 = .ok (.lconst 0, 1) := by decide +kernel
theorem dX5_gcd_20 : decode cX5_gcd 20 = .ok (.lcmp, 1) := by decide +kernel
theorem dX5_gcd_21 : decode cX5_gcd 21 = .ok (.ifCond .eq 21, 3) := by decide +kernel
theorem dX5_gcd_24 : decode cX5_gcd 24 = .ok (.lload 4, 2) := by decide +kernel
theorem dX5_gcd_26 : decode cX5_gcd 26 = .ok (.lload 6, 2) := by decide +kernel
theorem dX5_gcd_28 : decode cX5_gcd 28 = .ok (.lrem, 1) := by decide +kernel
theorem dX5_gcd_29 : decode cX5_gcd 29 = .ok (.lstore 8, 2) := by decide +kernel
theorem dX5_gcd_31 : decode cX5_gcd 31 = .ok (.lload 6, 2) := by decide +kernel
theorem dX5_gcd_33 : decode cX5_gcd 33 = .ok (.lstore 4, 2) := by decide +kernel
theorem dX5_gcd_35 : decode cX5_gcd 35 = .ok (.lload 8, 2) := by decide +kernel
theorem dX5_gcd_37 : decode cX5_gcd 37 = .ok (.lstore 6, 2) := by decide +kernel
theorem dX5_gcd_39 : decode cX5_gcd 39 = .ok (.goto (-22), 3) := by decide +kernel
theorem dX5_gcd_42 : decode cX5_gcd 42 = .ok (.lload 4, 2) := by decide +kernel
theorem dX5_gcd_44 : decode cX5_gcd 44 = .ok (.lreturn, 1) := by decide +kernel
set_option maxRecDepth 20000 in
theorem ggX5_part_X5_gcd : GoodIn wsX5_part wsX5_gcd := goodIn_r _ [4] (by decide +kernel) (by decide +kernel)
set_option maxRecDepth 20000 in
theorem gX5_part_X5_gcd : GoodIn wsX5_part (va_wsS RX5 89 yX5_gcd wsX5_gcd) := goodIn_app (goodIn_of _ (by decide +kernel)) ggX5_part_X5_gcd
theorem dX5_part_0 : decode cX5_part 0 = .ok (.lload_n 0, 1) := by decide +kernel
theorem dX5_part_1 : decode cX5_part 1 = .ok (.lload_n 2, 1) := by decide +kernel
theorem dX5_part_2 : decode cX5_part 2 = .ok (.invokestatic 89, 3) := by decide +kernel
theorem dX5_part_5 : decode cX5_part 5 = .ok (.lstore 5, 2) := by decide +kernel
theorem dX5_part_7 : decode cX5_part 7 = .ok (.iload 4, 2) := by decide +kernel
theorem dX5_part_9 : decode cX5_part 9 = .ok (.ifCond .ne 10, 3) := by decide +kernel
theorem dX5_part_12 : decode cX5_part 12 = .ok (.lload_n 0, 1) := by decide +kernel
theorem dX5_part_13 : decode cX5_part 13 = .ok (.lload 5, 2) := by decide +kernel
theorem dX5_part_15 : decode cX5_part 15 = .ok (.ldiv, 1) := by decide +kernel
theorem dX5_part_16 : decode cX5_part 16 = .ok (.goto 7, 3) := by decide +kernel
theorem dX5_part_19 : decode cX5_part 19 = .ok (.lload_n 2, 1) := by decide +kernel
theorem dX5_part_20 : decode cX5_part 20 = .ok (.lload 5, 2) := by decide +kernel
theorem dX5_part_22 : decode cX5_part 22 = .ok (.ldiv, 1) := by decide +kernel
theorem dX5_part_23 : decode cX5_part 23 = .ok (.lreturn, 1) := by decide +kernel
theorem dX5_rowsOf_0 : decode cX5_rowsOf 0 = .ok (.lconst 0, 1) := by decide +kernel
theorem dX5_rowsOf_1 : decode cX5_rowsOf 1 = .ok (.lstore_n 3, 1) := by decide +kernel
theorem dX5_rowsOf_2 : decode cX5_rowsOf 2 = .ok (.iconst 0, 1) := by decide +kernel
theorem dX5_rowsOf_3 : decode cX5_rowsOf 3 = .ok (.istore 5, 2) := by decide +kernel
theorem dX5_rowsOf_5 : decode cX5_rowsOf 5 = .ok (.iload 5, 2) := by decide +kernel
theorem dX5_rowsOf_7 : decode cX5_rowsOf 7 = .ok (.aload_n 0, 1) := by decide +kernel
theorem dX5_rowsOf_8 : decode cX5_rowsOf 8 = .ok (.getfield 84, 3) := by decide +kernel
theorem dX5_rowsOf_11 : decode cX5_rowsOf 11 = .ok (.if_icmp .ge 35, 3) := by decide +kernel
theorem dX5_rowsOf_14 : decode cX5_rowsOf 14 = .ok (.lload_n 3, 1) := by decide +kernel
theorem dX5_rowsOf_15 : decode cX5_rowsOf 15 = .ok (.aload_n 0, 1) := by decide +kernel
theorem dX5_rowsOf_16 : decode cX5_rowsOf 16 = .ok (.getfield 17, 3) := by decide +kernel
theorem dX5_rowsOf_19 : decode cX5_rowsOf 19 = .ok (.iconst 5, 1) := by decide +kernel
theorem dX5_rowsOf_20 : decode cX5_rowsOf 20 = .ok (.iload 5, 2) := by decide +kernel
theorem dX5_rowsOf_22 : decode cX5_rowsOf 22 = .ok (.imul, 1) := by decide +kernel
theorem dX5_rowsOf_23 : decode cX5_rowsOf 23 = .ok (.iload_n 1, 1) := by decide +kernel
theorem dX5_rowsOf_24 : decode cX5_rowsOf 24 = .ok (.iadd, 1) := by decide +kernel
theorem dX5_rowsOf_25 : decode cX5_rowsOf 25 = .ok (.iaload, 1) := by decide +kernel
theorem dX5_rowsOf_26 : decode cX5_rowsOf 26 = .ok (.iload_n 2, 1) := by decide +kernel
theorem dX5_rowsOf_27 : decode cX5_rowsOf 27 = .ok (.if_icmp .ne 10, 3) := by decide +kernel
theorem dX5_rowsOf_30 : decode cX5_rowsOf 30 = .ok (.lconst 1, 1) := by decide +kernel
theorem dX5_rowsOf_31 : decode cX5_rowsOf 31 = .ok (.iload 5, 2) := by decide +kernel
theorem dX5_rowsOf_33 : decode cX5_rowsOf 33 = .ok (.lshl, 1) := by decide +kernel
theorem dX5_rowsOf_34 : decode cX5_rowsOf 34 = .ok (.goto 4, 3) := by decide +kernel
theorem dX5_rowsOf_37 : decode cX5_rowsOf 37 = .ok (.lconst 0, 1) := by decide +kernel
theorem dX5_rowsOf_38 : decode cX5_rowsOf 38 = .ok (.lor, 1) := by decide +kernel
theorem dX5_rowsOf_39 : decode cX5_rowsOf 39 = .ok (.lstore_n 3, 1) := by decide +kernel
theorem dX5_rowsOf_40 : decode cX5_rowsOf 40 = .ok (.iinc 5 1, 3) := by decide +kernel
theorem dX5_rowsOf_43 : decode cX5_rowsOf 43 = .ok (.goto (-38), 3) := by decide +kernel
theorem dX5_rowsOf_46 : decode cX5_rowsOf 46 = .ok (.lload_n 3, 1) := by decide +kernel
theorem dX5_rowsOf_47 : decode cX5_rowsOf 47 = .ok (.lreturn, 1) := by decide +kernel
theorem dX5_countOf_0 : decode cX5_countOf 0 = .ok (.iconst 0, 1) := by decide +kernel
theorem dX5_countOf_1 : decode cX5_countOf 1 = .ok (.istore_n 2, 1) := by decide +kernel
theorem dX5_countOf_2 : decode cX5_countOf 2 = .ok (.iconst 0, 1) := by decide +kernel
theorem dX5_countOf_3 : decode cX5_countOf 3 = .ok (.istore_n 3, 1) := by decide +kernel
theorem dX5_countOf_4 : decode cX5_countOf 4 = .ok (.iload_n 3, 1) := by decide +kernel
theorem dX5_countOf_5 : decode cX5_countOf 5 = .ok (.bipush 48, 2) := by decide +kernel
theorem dX5_countOf_7 : decode cX5_countOf 7 = .ok (.if_icmp .ge 18, 3) := by decide +kernel
theorem dX5_countOf_10 : decode cX5_countOf 10 = .ok (.iload_n 2, 1) := by decide +kernel
theorem dX5_countOf_11 : decode cX5_countOf 11 = .ok (.lload_n 0, 1) := by decide +kernel
theorem dX5_countOf_12 : decode cX5_countOf 12 = .ok (.iload_n 3, 1) := by decide +kernel
theorem dX5_countOf_13 : decode cX5_countOf 13 = .ok (.lshr, 1) := by decide +kernel
theorem dX5_countOf_14 : decode cX5_countOf 14 = .ok (.lconst 1, 1) := by decide +kernel
theorem dX5_countOf_15 : decode cX5_countOf 15 = .ok (.land, 1) := by decide +kernel
theorem dX5_countOf_16 : decode cX5_countOf 16 = .ok (.l2i, 1) := by decide +kernel
theorem dX5_countOf_17 : decode cX5_countOf 17 = .ok (.iadd, 1) := by decide +kernel
theorem dX5_countOf_18 : decode cX5_countOf 18 = .ok (.istore_n 2, 1) := by decide +kernel
theorem dX5_countOf_19 : decode cX5_countOf 19 = .ok (.iinc 3 1, 3) := by decide +kernel
theorem dX5_countOf_22 : decode cX5_countOf 22 = .ok (.goto (-18), 3) := by decide +kernel
theorem dX5_countOf_25 : decode cX5_countOf 25 = .ok (.iload_n 2, 1) := by decide +kernel
theorem dX5_countOf_26 : decode cX5_countOf 26 = .ok (.ireturn, 1) := by decide +kernel
theorem dX5_hitsOf_0 : decode cX5_hitsOf 0 = .ok (.iconst 0, 1) := by decide +kernel
theorem dX5_hitsOf_1 : decode cX5_hitsOf 1 = .ok (.istore_n 3, 1) := by decide +kernel
theorem dX5_hitsOf_2 : decode cX5_hitsOf 2 = .ok (.iconst 0, 1) := by decide +kernel
theorem dX5_hitsOf_3 : decode cX5_hitsOf 3 = .ok (.istore 4, 2) := by decide +kernel
theorem dX5_hitsOf_5 : decode cX5_hitsOf 5 = .ok (.iload 4, 2) := by decide +kernel
theorem dX5_hitsOf_7 : decode cX5_hitsOf 7 = .ok (.aload_n 0, 1) := by decide +kernel
theorem dX5_hitsOf_8 : decode cX5_hitsOf 8 = .ok (.getfield 84, 3) := by decide +kernel
theorem dX5_hitsOf_11 : decode cX5_hitsOf 11 = .ok (.if_icmp .ge 38, 3) := by decide +kernel
theorem dX5_hitsOf_14 : decode cX5_hitsOf 14 = .ok (.iload_n 3, 1) := by decide +kernel
theorem dX5_hitsOf_15 : decode cX5_hitsOf 15 = .ok (.lload_n 1, 1) := by decide +kernel
theorem dX5_hitsOf_16 : decode cX5_hitsOf 16 = .ok (.iload 4, 2) := by decide +kernel
theorem dX5_hitsOf_18 : decode cX5_hitsOf 18 = .ok (.lshr, 1) := by decide +kernel
theorem dX5_hitsOf_19 : decode cX5_hitsOf 19 = .ok (.lconst 1, 1) := by decide +kernel
theorem dX5_hitsOf_20 : decode cX5_hitsOf 20 = .ok (.land, 1) := by decide +kernel
theorem dX5_hitsOf_21 : decode cX5_hitsOf 21 = .ok (.lconst 1, 1) := by decide +kernel
theorem dX5_hitsOf_22 : decode cX5_hitsOf 22 = .ok (.lcmp, 1) := by decide +kernel
theorem dX5_hitsOf_23 : decode cX5_hitsOf 23 = .ok (.ifCond .ne 17, 3) := by decide +kernel
theorem dX5_hitsOf_26 : decode cX5_hitsOf 26 = .ok (.aload_n 0, 1) := by decide +kernel
theorem dX5_hitsOf_27 : decode cX5_hitsOf 27 = .ok (.getfield 13, 3) := by decide +kernel
theorem dX5_hitsOf_30 : decode cX5_hitsOf 30 = .ok (.iload 4, 2) := by decide +kernel
theorem dX5_hitsOf_32 : decode cX5_hitsOf 32 = .ok (.baload, 1) := by decide +kernel
theorem dX5_hitsOf_33 : decode cX5_hitsOf 33 = .ok (.ifCond .eq 7, 3) := by decide +kernel
theorem dX5_hitsOf_36 : decode cX5_hitsOf 36 = .ok (.iconst 1, 1) := by decide +kernel
theorem dX5_hitsOf_37 : decode cX5_hitsOf 37 = .ok (.goto 4, 3) := by decide +kernel
theorem dX5_hitsOf_40 : decode cX5_hitsOf 40 = .ok (.iconst 0, 1) := by decide +kernel
theorem dX5_hitsOf_41 : decode cX5_hitsOf 41 = .ok (.iadd, 1) := by decide +kernel
theorem dX5_hitsOf_42 : decode cX5_hitsOf 42 = .ok (.istore_n 3, 1) := by decide +kernel
theorem dX5_hitsOf_43 : decode cX5_hitsOf 43 = .ok (.iinc 4 1, 3) := by decide +kernel
theorem dX5_hitsOf_46 : decode cX5_hitsOf 46 = .ok (.goto (-41), 3) := by decide +kernel
theorem dX5_hitsOf_49 : decode cX5_hitsOf 49 = .ok (.iload_n 3, 1) := by decide +kernel
theorem dX5_hitsOf_50 : decode cX5_hitsOf 50 = .ok (.ireturn, 1) := by decide +kernel
theorem dX5_goesBefore_0 : decode cX5_goesBefore 0 = .ok (.iload_n 2, 1) := by decide +kernel
theorem dX5_goesBefore_1 : decode cX5_goesBefore 1 = .ok (.iconst 2, 1) := by decide +kernel
theorem dX5_goesBefore_2 : decode cX5_goesBefore 2 = .ok (.iadd, 1) := by decide +kernel
theorem dX5_goesBefore_3 : decode cX5_goesBefore 3 = .ok (.aload_n 0, 1) := by decide +kernel
theorem dX5_goesBefore_4 : decode cX5_goesBefore 4 = .ok (.getfield 36, 3) := by decide +kernel
theorem dX5_goesBefore_7 : decode cX5_goesBefore 7 = .ok (.iload 7, 2) := by decide +kernel
theorem dX5_goesBefore_9 : decode cX5_goesBefore 9 = .ok (.iaload, 1) := by decide +kernel
theorem dX5_goesBefore_10 : decode cX5_goesBefore 10 = .ok (.iconst 4, 1) := by decide +kernel
theorem dX5_goesBefore_11 : decode cX5_goesBefore 11 = .ok (.iadd, 1) := by decide +kernel
theorem dX5_goesBefore_12 : decode cX5_goesBefore 12 = .ok (.imul, 1) := by decide +kernel
theorem dX5_goesBefore_13 : decode cX5_goesBefore 13 = .ok (.istore 8, 2) := by decide +kernel
theorem dX5_goesBefore_15 : decode cX5_goesBefore 15 = .ok (.aload_n 0, 1) := by decide +kernel
theorem dX5_goesBefore_16 : decode cX5_goesBefore 16 = .ok (.getfield 39, 3) := by decide +kernel
theorem dX5_goesBefore_19 : decode cX5_goesBefore 19 = .ok (.iload 7, 2) := by decide +kernel
theorem dX5_goesBefore_21 : decode cX5_goesBefore 21 = .ok (.iaload, 1) := by decide +kernel
theorem dX5_goesBefore_22 : decode cX5_goesBefore 22 = .ok (.iconst 2, 1) := by decide +kernel
theorem dX5_goesBefore_23 : decode cX5_goesBefore 23 = .ok (.iadd, 1) := by decide +kernel
theorem dX5_goesBefore_24 : decode cX5_goesBefore 24 = .ok (.iload_n 1, 1) := by decide +kernel
theorem dX5_goesBefore_25 : decode cX5_goesBefore 25 = .ok (.iconst 4, 1) := by decide +kernel
theorem dX5_goesBefore_26 : decode cX5_goesBefore 26 = .ok (.iadd, 1) := by decide +kernel
theorem dX5_goesBefore_27 : decode cX5_goesBefore 27 = .ok (.imul, 1) := by decide +kernel
theorem dX5_goesBefore_28 : decode cX5_goesBefore 28 = .ok (.istore 9, 2) := by decide +kernel
theorem dX5_goesBefore_30 : decode cX5_goesBefore 30 = .ok (.iload 8, 2) := by decide +kernel
theorem dX5_goesBefore_32 : decode cX5_goesBefore 32 = .ok (.iload 9, 2) := by decide +kernel
theorem dX5_goesBefore_34 : decode cX5_goesBefore 34 = .ok (.if_icmp .eq 16, 3) := by decide +kernel
theorem dX5_goesBefore_37 : decode cX5_goesBefore 37 = .ok (.iload 8, 2) := by decide +kernel
theorem dX5_goesBefore_39 : decode cX5_goesBefore 39 = .ok (.iload 9, 2) := by decide +kernel
theorem dX5_goesBefore_41 : decode cX5_goesBefore 41 = .ok (.if_icmp .ge 7, 3) := by decide +kernel
theorem dX5_goesBefore_44 : decode cX5_goesBefore 44 = .ok (.iconst 1, 1) := by decide +kernel
theorem dX5_goesBefore_45 : decode cX5_goesBefore 45 = .ok (.goto 4, 3) := by decide +kernel
theorem dX5_goesBefore_48 : decode cX5_goesBefore 48 = .ok (.iconst 0, 1) := by decide +kernel
theorem dX5_goesBefore_49 : decode cX5_goesBefore 49 = .ok (.ireturn, 1) := by decide +kernel
theorem dX5_goesBefore_50 : decode cX5_goesBefore 50 = .ok (.iload_n 1, 1) := by decide +kernel
theorem dX5_goesBefore_51 : decode cX5_goesBefore 51 = .ok (.aload_n 0, 1) := by decide +kernel
theorem dX5_goesBefore_52 : decode cX5_goesBefore 52 = .ok (.getfield 36, 3) := by decide +kernel
theorem dX5_goesBefore_55 : decode cX5_goesBefore 55 = .ok (.iload 7, 2) := by decide +kernel
theorem dX5_goesBefore_57 : decode cX5_goesBefore 57 = .ok (.iaload, 1) := by decide +kernel
theorem dX5_goesBefore_58 : decode cX5_goesBefore 58 = .ok (.if_icmp .eq 20, 3) := by decide +kernel
theorem dX5_goesBefore_61 : decode cX5_goesBefore 61 = .ok (.iload_n 1, 1) := by decide +kernel
theorem dX5_goesBefore_62 : decode cX5_goesBefore 62 = .ok (.aload_n 0, 1) := by decide +kernel
theorem dX5_goesBefore_63 : decode cX5_goesBefore 63 = .ok (.getfield 36, 3) := by decide +kernel
theorem dX5_goesBefore_66 : decode cX5_goesBefore 66 = .ok (.iload 7, 2) := by decide +kernel
theorem dX5_goesBefore_68 : decode cX5_goesBefore 68 = .ok (.iaload, 1) := by decide +kernel
theorem dX5_goesBefore_69 : decode cX5_goesBefore 69 = .ok (.if_icmp .le 7, 3) := by decide +kernel
theorem dX5_goesBefore_72 : decode cX5_goesBefore 72 = .ok (.iconst 1, 1) := by decide +kernel
theorem dX5_goesBefore_73 : decode cX5_goesBefore 73 = .ok (.goto 4, 3) := by decide +kernel
theorem dX5_goesBefore_76 : decode cX5_goesBefore 76 = .ok (.iconst 0, 1) := by decide +kernel
theorem dX5_goesBefore_77 : decode cX5_goesBefore 77 = .ok (.ireturn, 1) := by decide +kernel
theorem dX5_goesBefore_78 : decode cX5_goesBefore 78 = .ok (.iload_n 3, 1) := by decide +kernel
theorem dX5_goesBefore_79 : decode cX5_goesBefore 79 = .ok (.aload_n 0, 1) := by decide +kernel
theorem dX5_goesBefore_80 : decode cX5_goesBefore 80 = .ok (.getfield 20, 3) := by decide +kernel
theorem dX5_goesBefore_83 : decode cX5_goesBefore 83 = .ok (.iload 7, 2) := by decide +kernel
theorem dX5_goesBefore_85 : decode cX5_goesBefore 85 = .ok (.iaload, 1) := by decide +kernel
theorem dX5_goesBefore_86 : decode cX5_goesBefore 86 = .ok (.if_icmp .eq 20, 3) := by decide +kernel
theorem dX5_goesBefore_89 : decode cX5_goesBefore 89 = .ok (.iload_n 3, 1) := by decide +kernel
theorem dX5_goesBefore_90 : decode cX5_goesBefore 90 = .ok (.aload_n 0, 1) := by decide +kernel
theorem dX5_goesBefore_91 : decode cX5_goesBefore 91 = .ok (.getfield 20, 3) := by decide +kernel
theorem dX5_goesBefore_94 : decode cX5_goesBefore 94 = .ok (.iload 7, 2) := by decide +kernel
theorem dX5_goesBefore_96 : decode cX5_goesBefore 96 = .ok (.iaload, 1) := by decide +kernel
theorem dX5_goesBefore_97 : decode cX5_goesBefore 97 = .ok (.if_icmp .ge 7, 3) := by decide +kernel
theorem dX5_goesBefore_100 : decode cX5_goesBefore 100 = .ok (.iconst 1, 1) := by decide +kernel
theorem dX5_goesBefore_101 : decode cX5_goesBefore 101 = .ok (.goto 4, 3) := by decide +kernel
theorem dX5_goesBefore_104 : decode cX5_goesBefore 104 = .ok (.iconst 0, 1) := by decide +kernel
theorem dX5_goesBefore_105 : decode cX5_goesBefore 105 = .ok (.ireturn, 1) := by decide +kernel
theorem dX5_goesBefore_106 : decode cX5_goesBefore 106 = .ok (.iload 4, 2) := by decide +kernel
theorem dX5_goesBefore_108 : decode cX5_goesBefore 108 = .ok (.aload_n 0, 1) := by decide +kernel
theorem dX5_goesBefore_109 : decode cX5_goesBefore 109 = .ok (.getfield 23, 3) := by decide +kernel
theorem dX5_goesBefore_112 : decode cX5_goesBefore 112 = .ok (.iload 7, 2) := by decide +kernel
theorem dX5_goesBefore_114 : decode cX5_goesBefore 114 = .ok (.iaload, 1) := by decide +kernel
theorem dX5_goesBefore_115 : decode cX5_goesBefore 115 = .ok (.if_icmp .eq 21, 3) := by decide +kernel
theorem dX5_goesBefore_118 : decode cX5_goesBefore 118 = .ok (.iload 4, 2) := by decide +kernel
theorem dX5_goesBefore_120 : decode cX5_goesBefore 120 = .ok (.aload_n 0, 1) := by decide +kernel
theorem dX5_goesBefore_121 : decode cX5_goesBefore 121 = .ok (.getfield 23, 3) := by decide +kernel
theorem dX5_goesBefore_124 : decode cX5_goesBefore 124 = .ok (.iload 7, 2) := by decide +kernel
theorem dX5_goesBefore_126 : decode cX5_goesBefore 126 = .ok (.iaload, 1) := by decide +kernel
theorem dX5_goesBefore_127 : decode cX5_goesBefore 127 = .ok (.if_icmp .ge 7, 3) := by decide +kernel
theorem dX5_goesBefore_130 : decode cX5_goesBefore 130 = .ok (.iconst 1, 1) := by decide +kernel
theorem dX5_goesBefore_131 : decode cX5_goesBefore 131 = .ok (.goto 4, 3) := by decide +kernel
theorem dX5_goesBefore_134 : decode cX5_goesBefore 134 = .ok (.iconst 0, 1) := by decide +kernel
theorem dX5_goesBefore_135 : decode cX5_goesBefore 135 = .ok (.ireturn, 1) := by decide +kernel
theorem dX5_goesBefore_136 : decode cX5_goesBefore 136 = .ok (.iload 5, 2) := by decide +kernel
theorem dX5_goesBefore_138 : decode cX5_goesBefore 138 = .ok (.aload_n 0, 1) := by decide +kernel
theorem dX5_goesBefore_139 : decode cX5_goesBefore 139 = .ok (.getfield 26, 3) := by decide +kernel
theorem dX5_goesBefore_142 : decode cX5_goesBefore 142 = .ok (.iload 7, 2) := by decide +kernel
theorem dX5_goesBefore_144 : decode cX5_goesBefore 144 = .ok (.iaload, 1) := by decide +kernel
theorem dX5_goesBefore_145 : decode cX5_goesBefore 145 = .ok (.if_icmp .lt 27, 3) := by decide +kernel
theorem dX5_goesBefore_148 : decode cX5_goesBefore 148 = .ok (.iload 5, 2) := by decide +kernel
theorem dX5_goesBefore_150 : decode cX5_goesBefore 150 = .ok (.aload_n 0, 1) := by decide +kernel
theorem dX5_goesBefore_151 : decode cX5_goesBefore 151 = .ok (.getfield 26, 3) := by decide +kernel
theorem dX5_goesBefore_154 : decode cX5_goesBefore 154 = .ok (.iload 7, 2) := by decide +kernel
theorem dX5_goesBefore_156 : decode cX5_goesBefore 156 = .ok (.iaload, 1) := by decide +kernel
theorem dX5_goesBefore_157 : decode cX5_goesBefore 157 = .ok (.if_icmp .ne 19, 3) := by decide +kernel
theorem dX5_goesBefore_160 : decode cX5_goesBefore 160 = .ok (.iload 6, 2) := by decide +kernel
theorem dX5_goesBefore_162 : decode cX5_goesBefore 162 = .ok (.aload_n 0, 1) := by decide +kernel
theorem dX5_goesBefore_163 : decode cX5_goesBefore 163 = .ok (.getfield 29, 3) := by decide +kernel
theorem dX5_goesBefore_166 : decode cX5_goesBefore 166 = .ok (.iload 7, 2) := by decide +kernel
theorem dX5_goesBefore_168 : decode cX5_goesBefore 168 = .ok (.iaload, 1) := by decide +kernel
theorem dX5_goesBefore_169 : decode cX5_goesBefore 169 = .ok (.if_icmp .ge 7, 3) := by decide +kernel
theorem dX5_goesBefore_172 : decode cX5_goesBefore 172 = .ok (.iconst 1, 1) := by decide +kernel
theorem dX5_goesBefore_173 : decode cX5_goesBefore 173 = .ok (.goto 4, 3) := by decide +kernel
theorem dX5_goesBefore_176 : decode cX5_goesBefore 176 = .ok (.iconst 0, 1) := by decide +kernel
theorem dX5_goesBefore_177 : decode cX5_goesBefore 177 = .ok (.ireturn, 1) := by decide +kernel
set_option maxRecDepth 20000 in
theorem ggX5_judge_X5_countOf : GoodIn wsX5_judge wsX5_countOf := goodIn_r _ [12] (by decide +kernel) (by decide +kernel)
set_option maxRecDepth 20000 in
theorem gX5_judge_X5_countOf : GoodIn wsX5_judge (va_wsS RX5 93 yX5_countOf wsX5_countOf) := goodIn_app (goodIn_of _ (by decide +kernel)) ggX5_judge_X5_countOf
set_option maxRecDepth 20000 in
theorem ggX5_judge_X5_hitsOf : GoodIn wsX5_judge wsX5_hitsOf := goodIn_r _ [16, 17, 18, 23, 24, 25, 26, 27, 28, 29, 30, 31, 32, 33, 34, 35, 36, 37, 38, 39, 40, 41, 42, 43, 44, 45, 46, 47, 48, 49, 50, 51, 52] (by decide +kernel) (by decide +kernel)
set_option maxRecDepth 20000 in
theorem gX5_judge_X5_hitsOf : GoodIn wsX5_judge (wsV RX5 97 RX5 yX5_hitsOf wsX5_hitsOf) := goodIn_app (goodIn_of _ (by decide +kernel)) ggX5_judge_X5_hitsOf
set_option maxRecDepth 20000 in
theorem ggX5_judge_X5_goesBefore : GoodIn wsX5_judge wsX5_goesBefore := goodIn_r _ [22, 7, 8, 2, 3, 4, 5, 23, 24, 25, 26, 27, 28, 29, 30, 31, 32, 33, 34, 35, 36, 37, 38, 39, 40, 41, 42, 43, 44, 45, 46, 47, 48, 49, 50, 51, 52] (by decide +kernel) (by decide +kernel)
set_option maxRecDepth 20000 in
theorem gX5_judge_X5_goesBefore : GoodIn wsX5_judge (wsV RX5 103 RX5 yX5_goesBefore wsX5_goesBefore) := goodIn_app (goodIn_of _ (by decide +kernel)) ggX5_judge_X5_goesBefore
theorem dX5_judge_0 : decode cX5_judge 0 = .ok (.lload_n 1, 1) := by decide +kernel
theorem dX5_judge_1 : decode cX5_judge 1 = .ok (.invokestatic 93, 3) := by decide +kernel
theorem dX5_judge_4 : decode cX5_judge 4 = .ok (.istore 8, 2) := by decide +kernel
theorem dX5_judge_6 : decode cX5_judge 6 = .ok (.iload 8, 2) := by decide +kernel
theorem dX5_judge_8 : decode cX5_judge 8 = .ok (.iload_n 3, 1) := by decide +kernel
theorem dX5_judge_9 : decode cX5_judge 9 = .ok (.if_icmp .ge 4, 3) := by decide +kernel
theorem dX5_judge_12 : decode cX5_judge 12 = .ok (.return_, 1) := by decide +kernel
theorem dX5_judge_13 : decode cX5_judge 13 = .ok (.aload_n 0, 1) := by decide +kernel
theorem dX5_judge_14 : decode cX5_judge 14 = .ok (.lload_n 1, 1) := by decide +kernel
theorem dX5_judge_15 : decode cX5_judge 15 = .ok (.invokevirtual 97, 3) := by decide +kernel
theorem dX5_judge_18 : decode cX5_judge 18 = .ok (.istore 9, 2) := by decide +kernel
theorem dX5_judge_20 : decode cX5_judge 20 = .ok (.aload_n 0, 1) := by decide +kernel
theorem dX5_judge_21 : decode cX5_judge 21 = .ok (.getfield 100, 3) := by decide +kernel
theorem dX5_judge_24 : decode cX5_judge 24 = .ok (.istore 10, 2) := by decide +kernel
theorem dX5_judge_26 : decode cX5_judge 26 = .ok (.iload 10, 2) := by decide +kernel
theorem dX5_judge_28 : decode cX5_judge 28 = .ok (.ifCond .le 144, 3) := by decide +kernel
theorem dX5_judge_31 : decode cX5_judge 31 = .ok (.aload_n 0, 1) := by decide +kernel
theorem dX5_judge_32 : decode cX5_judge 32 = .ok (.iload 8, 2) := by decide +kernel
theorem dX5_judge_34 : decode cX5_judge 34 = .ok (.iload 9, 2) := by decide +kernel
theorem dX5_judge_36 : decode cX5_judge 36 = .ok (.iload 4, 2) := by decide +kernel
theorem dX5_judge_38 : decode cX5_judge 38 = .ok (.iload 5, 2) := by decide +kernel
theorem dX5_judge_40 : decode cX5_judge 40 = .ok (.iload 6, 2) := by decide +kernel
theorem dX5_judge_42 : decode cX5_judge 42 = .ok (.iload 7, 2) := by decide +kernel
theorem dX5_judge_44 : decode cX5_judge 44 = .ok (.iload 10, 2) := by decide +kernel
theorem dX5_judge_46 : decode cX5_judge 46 = .ok (.iconst 1, 1) := by decide +kernel
theorem dX5_judge_47 : decode cX5_judge 47 = .ok (.isub, 1) := by decide +kernel
theorem dX5_judge_48 : decode cX5_judge 48 = .ok (.invokevirtual 103, 3) := by decide +kernel
theorem dX5_judge_51 : decode cX5_judge 51 = .ok (.ifCond .eq 121, 3) := by decide +kernel
theorem dX5_judge_54 : decode cX5_judge 54 = .ok (.aload_n 0, 1) := by decide +kernel
theorem dX5_judge_55 : decode cX5_judge 55 = .ok (.getfield 20, 3) := by decide +kernel
theorem dX5_judge_58 : decode cX5_judge 58 = .ok (.iload 10, 2) := by decide +kernel
theorem dX5_judge_60 : decode cX5_judge 60 = .ok (.aload_n 0, 1) := by decide +kernel
theorem dX5_judge_61 : decode cX5_judge 61 = .ok (.getfield 20, 3) := by decide +kernel
theorem dX5_judge_64 : decode cX5_judge 64 = .ok (.iload 10, 2) := by decide +kernel
theorem dX5_judge_66 : decode cX5_judge 66 = .ok (.iconst 1, 1) := by decide +kernel
theorem dX5_judge_67 : decode cX5_judge 67 = .ok (.isub, 1) := by decide +kernel
theorem dX5_judge_68 : decode cX5_judge 68 = .ok (.iaload, 1) := by decide +kernel
theorem dX5_judge_69 : decode cX5_judge 69 = .ok (.iastore, 1) := by decide +kernel
theorem dX5_judge_70 : decode cX5_judge 70 = .ok (.aload_n 0, 1) := by decide +kernel
theorem dX5_judge_71 : decode cX5_judge 71 = .ok (.getfield 23, 3) := by decide +kernel
theorem dX5_judge_74 : decode cX5_judge 74 = .ok (.iload 10, 2) := by decide +kernel
theorem dX5_judge_76 : decode cX5_judge 76 = .ok (.aload_n 0, 1) := by decide +kernel
theorem dX5_judge_77 : decode cX5_judge 77 = .ok (.getfield 23, 3) := by decide +kernel
theorem dX5_judge_80 : decode cX5_judge 80 = .ok (.iload 10, 2) := by decide +kernel
theorem dX5_judge_82 : decode cX5_judge 82 = .ok (.iconst 1, 1) := by decide +kernel
theorem dX5_judge_83 : decode cX5_judge 83 = .ok (.isub, 1) := by decide +kernel
theorem dX5_judge_84 : decode cX5_judge 84 = .ok (.iaload, 1) := by decide +kernel
theorem dX5_judge_85 : decode cX5_judge 85 = .ok (.iastore, 1) := by decide +kernel
theorem dX5_judge_86 : decode cX5_judge 86 = .ok (.aload_n 0, 1) := by decide +kernel
theorem dX5_judge_87 : decode cX5_judge 87 = .ok (.getfield 26, 3) := by decide +kernel
theorem dX5_judge_90 : decode cX5_judge 90 = .ok (.iload 10, 2) := by decide +kernel
theorem dX5_judge_92 : decode cX5_judge 92 = .ok (.aload_n 0, 1) := by decide +kernel
theorem dX5_judge_93 : decode cX5_judge 93 = .ok (.getfield 26, 3) := by decide +kernel
theorem dX5_judge_96 : decode cX5_judge 96 = .ok (.iload 10, 2) := by decide +kernel
theorem dX5_judge_98 : decode cX5_judge 98 = .ok (.iconst 1, 1) := by decide +kernel
theorem dX5_judge_99 : decode cX5_judge 99 = .ok (.isub, 1) := by decide +kernel
theorem dX5_judge_100 : decode cX5_judge 100 = .ok (.iaload, 1) := by decide +kernel
theorem dX5_judge_101 : decode cX5_judge 101 = .ok (.iastore, 1) := by decide +kernel
theorem dX5_judge_102 : decode cX5_judge 102 = .ok (.aload_n 0, 1) := by decide +kernel
theorem dX5_judge_103 : decode cX5_judge 103 = .ok (.getfield 29, 3) := by decide +kernel
theorem dX5_judge_106 : decode cX5_judge 106 = .ok (.iload 10, 2) := by decide +kernel
theorem dX5_judge_108 : decode cX5_judge 108 = .ok (.aload_n 0, 1) := by decide +kernel
theorem dX5_judge_109 : decode cX5_judge 109 = .ok (.getfield 29, 3) := by decide +kernel
theorem dX5_judge_112 : decode cX5_judge 112 = .ok (.iload 10, 2) := by decide +kernel
theorem dX5_judge_114 : decode cX5_judge 114 = .ok (.iconst 1, 1) := by decide +kernel
theorem dX5_judge_115 : decode cX5_judge 115 = .ok (.isub, 1) := by decide +kernel
theorem dX5_judge_116 : decode cX5_judge 116 = .ok (.iaload, 1) := by decide +kernel
theorem dX5_judge_117 : decode cX5_judge 117 = .ok (.iastore, 1) := by decide +kernel
theorem dX5_judge_118 : decode cX5_judge 118 = .ok (.aload_n 0, 1) := by decide +kernel
theorem dX5_judge_119 : decode cX5_judge 119 = .ok (.getfield 32, 3) := by decide +kernel
theorem dX5_judge_122 : decode cX5_judge 122 = .ok (.iload 10, 2) := by decide +kernel
theorem dX5_judge_124 : decode cX5_judge 124 = .ok (.aload_n 0, 1) := by decide +kernel
theorem dX5_judge_125 : decode cX5_judge 125 = .ok (.getfield 32, 3) := by decide +kernel
theorem dX5_judge_128 : decode cX5_judge 128 = .ok (.iload 10, 2) := by decide +kernel
theorem dX5_judge_130 : decode cX5_judge 130 = .ok (.iconst 1, 1) := by decide +kernel
theorem dX5_judge_131 : decode cX5_judge 131 = .ok (.isub, 1) := by decide +kernel
theorem dX5_judge_132 : decode cX5_judge 132 = .ok (.laload, 1) := by decide +kernel
theorem dX5_judge_133 : decode cX5_judge 133 = .ok (.lastore, 1) := by decide +kernel
theorem dX5_judge_134 : decode cX5_judge 134 = .ok (.aload_n 0, 1) := by decide +kernel
theorem dX5_judge_135 : decode cX5_judge 135 = .ok (.getfield 36, 3) := by decide +kernel
theorem dX5_judge_138 : decode cX5_judge 138 = .ok (.iload 10, 2) := by decide +kernel
theorem dX5_judge_140 : decode cX5_judge 140 = .ok (.aload_n 0, 1) := by decide +kernel
theorem dX5_judge_141 : decode cX5_judge 141 = .ok (.getfield 36, 3) := by decide +kernel
theorem dX5_judge_144 : decode cX5_judge 144 = .ok (.iload 10, 2) := by decide +kernel
theorem dX5_judge_146 : decode cX5_judge 146 = .ok (.iconst 1, 1) := by decide +kernel
theorem dX5_judge_147 : decode cX5_judge 147 = .ok (.isub, 1) := by decide +kernel
theorem dX5_judge_148 : decode cX5_judge 148 = .ok (.iaload, 1) := by decide +kernel
theorem dX5_judge_149 : decode cX5_judge 149 = .ok (.iastore, 1) := by decide +kernel
theorem dX5_judge_150 : decode cX5_judge 150 = .ok (.aload_n 0, 1) := by decide +kernel
theorem dX5_judge_151 : decode cX5_judge 151 = .ok (.getfield 39, 3) := by decide +kernel
theorem dX5_judge_154 : decode cX5_judge 154 = .ok (.iload 10, 2) := by decide +kernel
theorem dX5_judge_156 : decode cX5_judge 156 = .ok (.aload_n 0, 1) := by decide +kernel
theorem dX5_judge_157 : decode cX5_judge 157 = .ok (.getfield 39, 3) := by decide +kernel
theorem dX5_judge_160 : decode cX5_judge 160 = .ok (.iload 10, 2) := by decide +kernel
theorem dX5_judge_162 : decode cX5_judge 162 = .ok (.iconst 1, 1) := by decide +kernel
theorem dX5_judge_163 : decode cX5_judge 163 = .ok (.isub, 1) := by decide +kernel
theorem dX5_judge_164 : decode cX5_judge 164 = .ok (.iaload, 1) := by decide +kernel
theorem dX5_judge_165 : decode cX5_judge 165 = .ok (.iastore, 1) := by decide +kernel
theorem dX5_judge_166 : decode cX5_judge 166 = .ok (.iinc 10 (-1), 3) := by decide +kernel
theorem dX5_judge_169 : decode cX5_judge 169 = .ok (.goto (-143), 3) := by decide +kernel
theorem dX5_judge_172 : decode cX5_judge 172 = .ok (.aload_n 0, 1) := by decide +kernel
theorem dX5_judge_173 : decode cX5_judge 173 = .ok (.getfield 20, 3) := by decide +kernel
theorem dX5_judge_176 : decode cX5_judge 176 = .ok (.iload 10, 2) := by decide +kernel
theorem dX5_judge_178 : decode cX5_judge 178 = .ok (.iload 4, 2) := by decide +kernel
theorem dX5_judge_180 : decode cX5_judge 180 = .ok (.iastore, 1) := by decide +kernel
theorem dX5_judge_181 : decode cX5_judge 181 = .ok (.aload_n 0, 1) := by decide +kernel
theorem dX5_judge_182 : decode cX5_judge 182 = .ok (.getfield 23, 3) := by decide +kernel
theorem dX5_judge_185 : decode cX5_judge 185 = .ok (.iload 10, 2) := by decide +kernel
theorem dX5_judge_187 : decode cX5_judge 187 = .ok (.iload 5, 2) := by decide +kernel
theorem dX5_judge_189 : decode cX5_judge 189 = .ok (.iastore, 1) := by decide +kernel
theorem dX5_judge_190 : decode cX5_judge 190 = .ok (.aload_n 0, 1) := by decide +kernel
theorem dX5_judge_191 : decode cX5_judge 191 = .ok (.getfield 26, 3) := by decide +kernel
theorem dX5_judge_194 : decode cX5_judge 194 = .ok (.iload 10, 2) := by decide +kernel
theorem dX5_judge_196 : decode cX5_judge 196 = .ok (.iload 6, 2) := by decide +kernel
theorem dX5_judge_198 : decode cX5_judge 198 = .ok (.iastore, 1) := by decide +kernel
theorem dX5_judge_199 : decode cX5_judge 199 = .ok (.aload_n 0, 1) := by decide +kernel
theorem dX5_judge_200 : decode cX5_judge 200 = .ok (.getfield 29, 3) := by decide +kernel
theorem dX5_judge_203 : decode cX5_judge 203 = .ok (.iload 10, 2) := by decide +kernel
theorem dX5_judge_205 : decode cX5_judge 205 = .ok (.iload 7, 2) := by decide +kernel
theorem dX5_judge_207 : decode cX5_judge 207 = .ok (.iastore, 1) := by decide +kernel
theorem dX5_judge_208 : decode cX5_judge 208 = .ok (.aload_n 0, 1) := by decide +kernel
theorem dX5_judge_209 : decode cX5_judge 209 = .ok (.getfield 32, 3) := by decide +kernel
theorem dX5_judge_212 : decode cX5_judge 212 = .ok (.iload 10, 2) := by decide +kernel
theorem dX5_judge_214 : decode cX5_judge 214 = .ok (.lload_n 1, 1) := by decide +kernel
theorem dX5_judge_215 : decode cX5_judge 215 = .ok (.lastore, 1) := by decide +kernel
theorem dX5_judge_216 : decode cX5_judge 216 = .ok (.aload_n 0, 1) := by decide +kernel
theorem dX5_judge_217 : decode cX5_judge 217 = .ok (.getfield 36, 3) := by decide +kernel
theorem dX5_judge_220 : decode cX5_judge 220 = .ok (.iload 10, 2) := by decide +kernel
theorem dX5_judge_222 : decode cX5_judge 222 = .ok (.iload 8, 2) := by decide +kernel
theorem dX5_judge_224 : decode cX5_judge 224 = .ok (.iastore, 1) := by decide +kernel
theorem dX5_judge_225 : decode cX5_judge 225 = .ok (.aload_n 0, 1) := by decide +kernel
theorem dX5_judge_226 : decode cX5_judge 226 = .ok (.getfield 39, 3) := by decide +kernel
theorem dX5_judge_229 : decode cX5_judge 229 = .ok (.iload 10, 2) := by decide +kernel
theorem dX5_judge_231 : decode cX5_judge 231 = .ok (.iload 9, 2) := by decide +kernel
theorem dX5_judge_233 : decode cX5_judge 233 = .ok (.iastore, 1) := by decide +kernel
theorem dX5_judge_234 : decode cX5_judge 234 = .ok (.aload_n 0, 1) := by decide +kernel
theorem dX5_judge_235 : decode cX5_judge 235 = .ok (.dup, 1) := by decide +kernel
theorem dX5_judge_236 : decode cX5_judge 236 = .ok (.getfield 100, 3) := by decide +kernel
theorem dX5_judge_239 : decode cX5_judge 239 = .ok (.iconst 1, 1) := by decide +kernel
theorem dX5_judge_240 : decode cX5_judge 240 = .ok (.iadd, 1) := by decide +kernel
theorem dX5_judge_241 : decode cX5_judge 241 = .ok (.putfield 100, 3) := by decide +kernel
theorem dX5_judge_244 : decode cX5_judge 244 = .ok (.return_, 1) := by decide +kernel
set_option maxRecDepth 20000 in
theorem ggX5_slices_X5_in : GoodIn wsX5_slices wsX5_in := goodIn_r _ [7] (by decide +kernel) (by decide +kernel)
set_option maxRecDepth 20000 in
theorem gX5_slices_X5_in : GoodIn wsX5_slices (va_wsS RX5 79 yX5_in wsX5_in) := goodIn_app (goodIn_of _ (by decide +kernel)) ggX5_slices_X5_in
set_option maxRecDepth 20000 in
theorem ggX5_slices_X5_rowsOf : GoodIn wsX5_slices wsX5_rowsOf := goodIn_r _ [11, 12, 13, 37, 38, 39, 40, 41, 42, 43, 44, 45, 46, 47, 48, 49, 50, 51, 52, 53, 54, 55, 56, 57, 58, 59, 60, 61, 62, 63, 64, 65, 66] (by decide +kernel) (by decide +kernel)
set_option maxRecDepth 20000 in
theorem gX5_slices_X5_rowsOf : GoodIn wsX5_slices (wsV RX5 107 RX5 yX5_rowsOf wsX5_rowsOf) := goodIn_app (goodIn_of _ (by decide +kernel)) ggX5_slices_X5_rowsOf
set_option maxRecDepth 20000 in
theorem ggX5_slices_X5_judge : GoodIn wsX5_slices wsX5_judge := goodIn_r _ [17, 3, 18, 19, 20, 21, 22, 23, 24, 25, 26, 6, 27, 28, 29, 30, 31, 12, 32, 33, 34, 35, 36, 37, 38, 39, 40, 41, 42, 43, 44, 45, 46, 47, 48, 49, 50, 51, 52, 53, 54, 55, 56, 57, 58, 59, 60, 61, 62, 63, 64, 65, 66] (by decide +kernel) (by decide +kernel)
set_option maxRecDepth 20000 in
theorem gX5_slices_X5_judge : GoodIn wsX5_slices (wsV RX5 111 RX5 yX5_judge wsX5_judge) := goodIn_app (goodIn_of _ (by decide +kernel)) ggX5_slices_X5_judge
theorem dX5_slices_0 : decode cX5_slices 0 = .ok (.aload_n 0, 1) := by decide +kernel
theorem dX5_slices_1 : decode cX5_slices 1 = .ok (.iconst 0, 1) := by decide +kernel
theorem dX5_slices_2 : decode cX5_slices 2 = .ok (.putfield 75, 3) := by decide +kernel
theorem dX5_slices_5 : decode cX5_slices 5 = .ok (.iload_n 1, 1) := by decide +kernel
theorem dX5_slices_6 : decode cX5_slices 6 = .ok (.iconst 1, 1) := by decide +kernel
theorem dX5_slices_7 : decode cX5_slices 7 = .ok (.bipush 48, 2) := by decide +kernel
theorem dX5_slices_9 : decode cX5_slices 9 = .ok (.invokestatic 79, 3) := by decide +kernel
theorem dX5_slices_12 : decode cX5_slices 12 = .ok (.ifCond .eq 12, 3) := by decide +kernel
theorem dX5_slices_15 : decode cX5_slices 15 = .ok (.iload_n 2, 1) := by decide +kernel
theorem dX5_slices_16 : decode cX5_slices 16 = .ok (.iconst 1, 1) := by decide +kernel
theorem dX5_slices_17 : decode cX5_slices 17 = .ok (.iconst 2, 1) := by decide +kernel
theorem dX5_slices_18 : decode cX5_slices 18 = .ok (.invokestatic 79, 3) := by decide +kernel
theorem dX5_slices_21 : decode cX5_slices 21 = .ok (.ifCond .ne 6, 3) := by decide +kernel
theorem dX5_slices_24 : decode cX5_slices 24 = .ok (.ldc 83, 2) := by decide +kernel
theorem dX5_slices_26 : decode cX5_slices 26 = .ok (.ireturn, 1) := by decide +kernel
theorem dX5_slices_27 : decode cX5_slices 27 = .ok (.aload_n 0, 1) := by decide +kernel
theorem dX5_slices_28 : decode cX5_slices 28 = .ok (.iconst 0, 1) := by decide +kernel
theorem dX5_slices_29 : decode cX5_slices 29 = .ok (.putfield 100, 3) := by decide +kernel
theorem dX5_slices_32 : decode cX5_slices 32 = .ok (.iconst 0, 1) := by decide +kernel
theorem dX5_slices_33 : decode cX5_slices 33 = .ok (.istore_n 3, 1) := by decide +kernel
theorem dX5_slices_34 : decode cX5_slices 34 = .ok (.iload_n 3, 1) := by decide +kernel
theorem dX5_slices_35 : decode cX5_slices 35 = .ok (.iconst 5, 1) := by decide +kernel
theorem dX5_slices_36 : decode cX5_slices 36 = .ok (.if_icmp .ge 145, 3) := by decide +kernel
theorem dX5_slices_39 : decode cX5_slices 39 = .ok (.iconst 0, 1) := by decide +kernel
theorem dX5_slices_40 : decode cX5_slices 40 = .ok (.istore 4, 2) := by decide +kernel
theorem dX5_slices_42 : decode cX5_slices 42 = .ok (.iload 4, 2) := by decide +kernel
theorem dX5_slices_44 : decode cX5_slices 44 = .ok (.bipush 11, 2) := by decide +kernel
theorem dX5_slices_46 : decode cX5_slices 46 = .ok (.if_icmp .ge 129, 3) := by decide +kernel
theorem dX5_slices_49 : decode cX5_slices 49 = .ok (.aload_n 0, 1) := by decide +kernel
theorem dX5_slices_50 : decode cX5_slices 50 = .ok (.iload_n 3, 1) := by decide +kernel
theorem dX5_slices_51 : decode cX5_slices 51 = .ok (.iload 4, 2) := by decide +kernel
theorem dX5_slices_53 : decode cX5_slices 53 = .ok (.invokevirtual 107, 3) := by decide +kernel
theorem dX5_slices_56 : decode cX5_slices 56 = .ok (.lstore 5, 2) := by decide +kernel
theorem dX5_slices_58 : decode cX5_slices 58 = .ok (.aload_n 0, 1) := by decide +kernel
theorem dX5_slices_59 : decode cX5_slices 59 = .ok (.lload 5, 2) := by decide +kernel
theorem dX5_slices_61 : decode cX5_slices 61 = .ok (.iload_n 1, 1) := by decide +kernel
theorem dX5_slices_62 : decode cX5_slices 62 = .ok (.iload_n 3, 1) := by decide +kernel
theorem dX5_slices_63 : decode cX5_slices 63 = .ok (.iload 4, 2) := by decide +kernel
theorem dX5_slices_65 : decode cX5_slices 65 = .ok (.iconst (-1), 1) := by decide +kernel
theorem dX5_slices_66 : decode cX5_slices 66 = .ok (.iconst (-1), 1) := by decide +kernel
theorem dX5_slices_67 : decode cX5_slices 67 = .ok (.invokevirtual 111, 3) := by decide +kernel
theorem dX5_slices_70 : decode cX5_slices 70 = .ok (.iload_n 3, 1) := by decide +kernel
theorem dX5_slices_71 : decode cX5_slices 71 = .ok (.iconst 1, 1) := by decide +kernel
theorem dX5_slices_72 : decode cX5_slices 72 = .ok (.iadd, 1) := by decide +kernel
theorem dX5_slices_73 : decode cX5_slices 73 = .ok (.istore 7, 2) := by decide +kernel
theorem dX5_slices_75 : decode cX5_slices 75 = .ok (.iload 7, 2) := by decide +kernel
theorem dX5_slices_77 : decode cX5_slices 77 = .ok (.iconst 5, 1) := by decide +kernel
theorem dX5_slices_78 : decode cX5_slices 78 = .ok (.if_icmp .ge 91, 3) := by decide +kernel
theorem dX5_slices_81 : decode cX5_slices 81 = .ok (.iload_n 2, 1) := by decide +kernel
theorem dX5_slices_82 : decode cX5_slices 82 = .ok (.iconst 2, 1) := by decide +kernel
theorem dX5_slices_83 : decode cX5_slices 83 = .ok (.if_icmp .ne 86, 3) := by decide +kernel
theorem dX5_slices_86 : decode cX5_slices 86 = .ok (.lload 5, 2) := by decide +kernel
theorem dX5_slices_88 : decode cX5_slices 88 = .ok (.lconst 0, 1) := by decide +kernel
theorem dX5_slices_89 : decode cX5_slices 89 = .ok (.lcmp, 1) := by decide +kernel
theorem dX5_slices_90 : decode cX5_slices 90 = .ok (.ifCond .eq 79, 3) := by decide +kernel
theorem dX5_slices_93 : decode cX5_slices 93 = .ok (.iconst 0, 1) := by decide +kernel
theorem dX5_slices_94 : decode cX5_slices 94 = .ok (.istore 8, 2) := by decide +kernel
theorem dX5_slices_96 : decode cX5_slices 96 = .ok (.iload 8, 2) := by decide +kernel
theorem dX5_slices_98 : decode cX5_slices 98 = .ok (.bipush 11, 2) := by decide +kernel
theorem dX5_slices_100 : decode cX5_slices 100 = .ok (.if_icmp .ge 63, 3) := by decide +kernel
theorem dX5_slices_103 : decode cX5_slices 103 = .ok (.aload_n 0, 1) := by decide +kernel
theorem dX5_slices_104 : decode cX5_slices 104 = .ok (.iload 7, 2) := by decide +kernel
theorem dX5_slices_106 : decode cX5_slices 106 = .ok (.iload 8, 2) := by decide +kernel
theorem dX5_slices_108 : decode cX5_slices 108 = .ok (.invokevirtual 107, 3) := by decide +kernel
theorem dX5_slices_111 : decode cX5_slices 111 = .ok (.lstore 9, 2) := by decide +kernel
theorem dX5_slices_113 : decode cX5_slices 113 = .ok (.lload 5, 2) := by decide +kernel
theorem dX5_slices_115 : decode cX5_slices 115 = .ok (.lload 9, 2) := by decide +kernel
theorem dX5_slices_117 : decode cX5_slices 117 = .ok (.land, 1) := by decide +kernel
theorem dX5_slices_118 : decode cX5_slices 118 = .ok (.lstore 11, 2) := by decide +kernel
theorem dX5_slices_120 : decode cX5_slices 120 = .ok (.lload 11, 2) := by decide +kernel
theorem dX5_slices_122 : decode cX5_slices 122 = .ok (.lconst 0, 1) := by decide +kernel
theorem dX5_slices_123 : decode cX5_slices 123 = .ok (.lcmp, 1) := by decide +kernel
theorem dX5_slices_124 : decode cX5_slices 124 = .ok (.ifCond .eq 33, 3) := by decide +kernel
theorem dX5_slices_127 : decode cX5_slices 127 = .ok (.lload 11, 2) := by decide +kernel
theorem dX5_slices_129 : decode cX5_slices 129 = .ok (.lload 5, 2) := by decide +kernel
theorem dX5_slices_131 : decode cX5_slices 131 = .ok (.lcmp, 1) := by decide +kernel
theorem dX5_slices_132 : decode cX5_slices 132 = .ok (.ifCond .eq 25, 3) := by decide +kernel
theorem dX5_slices_135 : decode cX5_slices 135 = .ok (.lload 11, 2) := by decide +kernel
theorem dX5_slices_137 : decode cX5_slices 137 = .ok (.lload 9, 2) := by decide +kernel
theorem dX5_slices_139 : decode cX5_slices 139 = .ok (.lcmp, 1) := by decide +kernel
theorem dX5_slices_140 : decode cX5_slices 140 = .ok (.ifCond .eq 17, 3) := by decide +kernel
theorem dX5_slices_143 : decode cX5_slices 143 = .ok (.aload_n 0, 1) := by decide +kernel
theorem dX5_slices_144 : decode cX5_slices 144 = .ok (.lload 11, 2) := by decide +kernel
theorem dX5_slices_146 : decode cX5_slices 146 = .ok (.iload_n 1, 1) := by decide +kernel
theorem dX5_slices_147 : decode cX5_slices 147 = .ok (.iload_n 3, 1) := by decide +kernel
theorem dX5_slices_148 : decode cX5_slices 148 = .ok (.iload 4, 2) := by decide +kernel
theorem dX5_slices_150 : decode cX5_slices 150 = .ok (.iload 7, 2) := by decide +kernel
theorem dX5_slices_152 : decode cX5_slices 152 = .ok (.iload 8, 2) := by decide +kernel
theorem dX5_slices_154 : decode cX5_slices 154 = .ok (.invokevirtual 111, 3) := by decide +kernel
theorem dX5_slices_157 : decode cX5_slices 157 = .ok (.iinc 8 1, 3) := by decide +kernel
theorem dX5_slices_160 : decode cX5_slices 160 = .ok (.goto (-64), 3) := by decide +kernel
theorem dX5_slices_163 : decode cX5_slices 163 = .ok (.iinc 7 1, 3) := by decide +kernel
theorem dX5_slices_166 : decode cX5_slices 166 = .ok (.goto (-91), 3) := by decide +kernel
theorem dX5_slices_169 : decode cX5_slices 169 = .ok (.iinc 4 1, 3) := by decide +kernel
theorem dX5_slices_172 : decode cX5_slices 172 = .ok (.goto (-130), 3) := by decide +kernel
theorem dX5_slices_175 : decode cX5_slices 175 = .ok (.iinc 3 1, 3) := by decide +kernel
theorem dX5_slices_178 : decode cX5_slices 178 = .ok (.goto (-144), 3) := by decide +kernel
theorem dX5_slices_181 : decode cX5_slices 181 = .ok (.aload_n 0, 1) := by decide +kernel
theorem dX5_slices_182 : decode cX5_slices 182 = .ok (.getfield 100, 3) := by decide +kernel
theorem dX5_slices_185 : decode cX5_slices 185 = .ok (.ireturn, 1) := by decide +kernel
set_option maxRecDepth 20000 in
theorem ggX5_slice_X5_in : GoodIn wsX5_slice wsX5_in := goodIn_r _ [13] (by decide +kernel) (by decide +kernel)
set_option maxRecDepth 20000 in
theorem gX5_slice_X5_in : GoodIn wsX5_slice (va_wsS RX5 79 yX5_in wsX5_in) := goodIn_app (goodIn_of _ (by decide +kernel)) ggX5_slice_X5_in
theorem dX5_slice_0 : decode cX5_slice 0 = .ok (.aload_n 0, 1) := by decide +kernel
theorem dX5_slice_1 : decode cX5_slice 1 = .ok (.iconst 0, 1) := by decide +kernel
theorem dX5_slice_2 : decode cX5_slice 2 = .ok (.putfield 75, 3) := by decide +kernel
theorem dX5_slice_5 : decode cX5_slice 5 = .ok (.iload_n 1, 1) := by decide +kernel
theorem dX5_slice_6 : decode cX5_slice 6 = .ok (.iconst 0, 1) := by decide +kernel
theorem dX5_slice_7 : decode cX5_slice 7 = .ok (.aload_n 0, 1) := by decide +kernel
theorem dX5_slice_8 : decode cX5_slice 8 = .ok (.getfield 100, 3) := by decide +kernel
theorem dX5_slice_11 : decode cX5_slice 11 = .ok (.iconst 1, 1) := by decide +kernel
theorem dX5_slice_12 : decode cX5_slice 12 = .ok (.isub, 1) := by decide +kernel
theorem dX5_slice_13 : decode cX5_slice 13 = .ok (.invokestatic 79, 3) := by decide +kernel
theorem dX5_slice_16 : decode cX5_slice 16 = .ok (.ifCond .ne 6, 3) := by decide +kernel
theorem dX5_slice_19 : decode cX5_slice 19 = .ok (.ldc 88, 2) := by decide +kernel
theorem dX5_slice_21 : decode cX5_slice 21 = .ok (.ireturn, 1) := by decide +kernel
theorem dX5_slice_22 : decode cX5_slice 22 = .ok (.iload_n 2, 1) := by decide +kernel
theorem dX5_slice_23 : decode cX5_slice 23 = .ok (.tableswitch 79 0 5 #[37, 44, 51, 58, 65, 72], 37) := by decide +kernel
theorem dX5_slice_60 : decode cX5_slice 60 = .ok (.aload_n 0, 1) := by decide +kernel
theorem dX5_slice_61 : decode cX5_slice 61 = .ok (.getfield 20, 3) := by decide +kernel
theorem dX5_slice_64 : decode cX5_slice 64 = .ok (.iload_n 1, 1) := by decide +kernel
theorem dX5_slice_65 : decode cX5_slice 65 = .ok (.iaload, 1) := by decide +kernel
theorem dX5_slice_66 : decode cX5_slice 66 = .ok (.ireturn, 1) := by decide +kernel
theorem dX5_slice_67 : decode cX5_slice 67 = .ok (.aload_n 0, 1) := by decide +kernel
theorem dX5_slice_68 : decode cX5_slice 68 = .ok (.getfield 23, 3) := by decide +kernel
theorem dX5_slice_71 : decode cX5_slice 71 = .ok (.iload_n 1, 1) := by decide +kernel
theorem dX5_slice_72 : decode cX5_slice 72 = .ok (.iaload, 1) := by decide +kernel
theorem dX5_slice_73 : decode cX5_slice 73 = .ok (.ireturn, 1) := by decide +kernel
theorem dX5_slice_74 : decode cX5_slice 74 = .ok (.aload_n 0, 1) := by decide +kernel
theorem dX5_slice_75 : decode cX5_slice 75 = .ok (.getfield 26, 3) := by decide +kernel
theorem dX5_slice_78 : decode cX5_slice 78 = .ok (.iload_n 1, 1) := by decide +kernel
theorem dX5_slice_79 : decode cX5_slice 79 = .ok (.iaload, 1) := by decide +kernel
theorem dX5_slice_80 : decode cX5_slice 80 = .ok (.ireturn, 1) := by decide +kernel
theorem dX5_slice_81 : decode cX5_slice 81 = .ok (.aload_n 0, 1) := by decide +kernel
theorem dX5_slice_82 : decode cX5_slice 82 = .ok (.getfield 29, 3) := by decide +kernel
theorem dX5_slice_85 : decode cX5_slice 85 = .ok (.iload_n 1, 1) := by decide +kernel
theorem dX5_slice_86 : decode cX5_slice 86 = .ok (.iaload, 1) := by decide +kernel
theorem dX5_slice_87 : decode cX5_slice 87 = .ok (.ireturn, 1) := by decide +kernel
theorem dX5_slice_88 : decode cX5_slice 88 = .ok (.aload_n 0, 1) := by decide +kernel
theorem dX5_slice_89 : decode cX5_slice 89 = .ok (.getfield 36, 3) := by decide +kernel
theorem dX5_slice_92 : decode cX5_slice 92 = .ok (.iload_n 1, 1) := by decide +kernel
theorem dX5_slice_93 : decode cX5_slice 93 = .ok (.iaload, 1) := by decide +kernel
theorem dX5_slice_94 : decode cX5_slice 94 = .ok (.ireturn, 1) := by decide +kernel
theorem dX5_slice_95 : decode cX5_slice 95 = .ok (.aload_n 0, 1) := by decide +kernel
theorem dX5_slice_96 : decode cX5_slice 96 = .ok (.getfield 39, 3) := by decide +kernel
theorem dX5_slice_99 : decode cX5_slice 99 = .ok (.iload_n 1, 1) := by decide +kernel
theorem dX5_slice_100 : decode cX5_slice 100 = .ok (.iaload, 1) := by decide +kernel
theorem dX5_slice_101 : decode cX5_slice 101 = .ok (.ireturn, 1) := by decide +kernel
theorem dX5_slice_102 : decode cX5_slice 102 = .ok (.ldc 88, 2) := by decide +kernel
theorem dX5_slice_104 : decode cX5_slice 104 = .ok (.ireturn, 1) := by decide +kernel
set_option maxRecDepth 20000 in
theorem ggX5_member_X5_in : GoodIn wsX5_member wsX5_in := goodIn_r _ [9] (by decide +kernel) (by decide +kernel)
set_option maxRecDepth 20000 in
theorem gX5_member_X5_in : GoodIn wsX5_member (va_wsS RX5 79 yX5_in wsX5_in) := goodIn_app (goodIn_of _ (by decide +kernel)) ggX5_member_X5_in
theorem dX5_member_0 : decode cX5_member 0 = .ok (.aload_n 0, 1) := by decide +kernel
theorem dX5_member_1 : decode cX5_member 1 = .ok (.iconst 0, 1) := by decide +kernel
theorem dX5_member_2 : decode cX5_member 2 = .ok (.putfield 75, 3) := by decide +kernel
theorem dX5_member_5 : decode cX5_member 5 = .ok (.iload_n 1, 1) := by decide +kernel
theorem dX5_member_6 : decode cX5_member 6 = .ok (.iconst 0, 1) := by decide +kernel
theorem dX5_member_7 : decode cX5_member 7 = .ok (.aload_n 0, 1) := by decide +kernel
theorem dX5_member_8 : decode cX5_member 8 = .ok (.getfield 100, 3) := by decide +kernel
theorem dX5_member_11 : decode cX5_member 11 = .ok (.iconst 1, 1) := by decide +kernel
theorem dX5_member_12 : decode cX5_member 12 = .ok (.isub, 1) := by decide +kernel
theorem dX5_member_13 : decode cX5_member 13 = .ok (.invokestatic 79, 3) := by decide +kernel
theorem dX5_member_16 : decode cX5_member 16 = .ok (.ifCond .ne 6, 3) := by decide +kernel
theorem dX5_member_19 : decode cX5_member 19 = .ok (.ldc 88, 2) := by decide +kernel
theorem dX5_member_21 : decode cX5_member 21 = .ok (.ireturn, 1) := by decide +kernel
theorem dX5_member_22 : decode cX5_member 22 = .ok (.iload_n 2, 1) := by decide +kernel
theorem dX5_member_23 : decode cX5_member 23 = .ok (.ifCond .ge 6, 3) := by decide +kernel
theorem dX5_member_26 : decode cX5_member 26 = .ok (.ldc 83, 2) := by decide +kernel
theorem dX5_member_28 : decode cX5_member 28 = .ok (.ireturn, 1) := by decide +kernel
theorem dX5_member_29 : decode cX5_member 29 = .ok (.iconst 0, 1) := by decide +kernel
theorem dX5_member_30 : decode cX5_member 30 = .ok (.istore_n 3, 1) := by decide +kernel
theorem dX5_member_31 : decode cX5_member 31 = .ok (.iconst 0, 1) := by decide +kernel
theorem dX5_member_32 : decode cX5_member 32 = .ok (.istore 4, 2) := by decide +kernel
theorem dX5_member_34 : decode cX5_member 34 = .ok (.iload 4, 2) := by decide +kernel
theorem dX5_member_36 : decode cX5_member 36 = .ok (.bipush 48, 2) := by decide +kernel
theorem dX5_member_38 : decode cX5_member 38 = .ok (.if_icmp .ge 36, 3) := by decide +kernel
theorem dX5_member_41 : decode cX5_member 41 = .ok (.aload_n 0, 1) := by decide +kernel
theorem dX5_member_42 : decode cX5_member 42 = .ok (.getfield 32, 3) := by decide +kernel
theorem dX5_member_45 : decode cX5_member 45 = .ok (.iload_n 1, 1) := by decide +kernel
theorem dX5_member_46 : decode cX5_member 46 = .ok (.laload, 1) := by decide +kernel
theorem dX5_member_47 : decode cX5_member 47 = .ok (.iload 4, 2) := by decide +kernel
theorem dX5_member_49 : decode cX5_member 49 = .ok (.lshr, 1) := by decide +kernel
theorem dX5_member_50 : decode cX5_member 50 = .ok (.lconst 1, 1) := by decide +kernel
theorem dX5_member_51 : decode cX5_member 51 = .ok (.land, 1) := by decide +kernel
theorem dX5_member_52 : decode cX5_member 52 = .ok (.lconst 1, 1) := by decide +kernel
theorem dX5_member_53 : decode cX5_member 53 = .ok (.lcmp, 1) := by decide +kernel
theorem dX5_member_54 : decode cX5_member 54 = .ok (.ifCond .ne 14, 3) := by decide +kernel
theorem dX5_member_57 : decode cX5_member 57 = .ok (.iload_n 3, 1) := by decide +kernel
theorem dX5_member_58 : decode cX5_member 58 = .ok (.iload_n 2, 1) := by decide +kernel
theorem dX5_member_59 : decode cX5_member 59 = .ok (.if_icmp .ne 6, 3) := by decide +kernel
theorem dX5_member_62 : decode cX5_member 62 = .ok (.iload 4, 2) := by decide +kernel
theorem dX5_member_64 : decode cX5_member 64 = .ok (.ireturn, 1) := by decide +kernel
theorem dX5_member_65 : decode cX5_member 65 = .ok (.iinc 3 1, 3) := by decide +kernel
theorem dX5_member_68 : decode cX5_member 68 = .ok (.iinc 4 1, 3) := by decide +kernel
theorem dX5_member_71 : decode cX5_member 71 = .ok (.goto (-37), 3) := by decide +kernel
theorem dX5_member_74 : decode cX5_member 74 = .ok (.iconst (-1), 1) := by decide +kernel
theorem dX5_member_75 : decode cX5_member 75 = .ok (.ireturn, 1) := by decide +kernel
set_option maxRecDepth 20000 in
theorem ggX5_share_X5_in : GoodIn wsX5_share wsX5_in := goodIn_r _ [10] (by decide +kernel) (by decide +kernel)
set_option maxRecDepth 20000 in
theorem gX5_share_X5_in : GoodIn wsX5_share (va_wsS RX5 79 yX5_in wsX5_in) := goodIn_app (goodIn_of _ (by decide +kernel)) ggX5_share_X5_in
set_option maxRecDepth 20000 in
theorem ggX5_share_X5_part : GoodIn wsX5_share wsX5_part := goodIn_r _ [13, 14, 15, 9, 16] (by decide +kernel) (by decide +kernel)
set_option maxRecDepth 20000 in
theorem gX5_share_X5_part : GoodIn wsX5_share (va_wsS RX5 119 yX5_part wsX5_part) := goodIn_app (goodIn_of _ (by decide +kernel)) ggX5_share_X5_part
theorem dX5_share_0 : decode cX5_share 0 = .ok (.aload_n 0, 1) := by decide +kernel
theorem dX5_share_1 : decode cX5_share 1 = .ok (.iconst 0, 1) := by decide +kernel
theorem dX5_share_2 : decode cX5_share 2 = .ok (.putfield 75, 3) := by decide +kernel
theorem dX5_share_5 : decode cX5_share 5 = .ok (.iload_n 1, 1) := by decide +kernel
theorem dX5_share_6 : decode cX5_share 6 = .ok (.iconst 0, 1) := by decide +kernel
theorem dX5_share_7 : decode cX5_share 7 = .ok (.aload_n 0, 1) := by decide +kernel
theorem dX5_share_8 : decode cX5_share 8 = .ok (.getfield 100, 3) := by decide +kernel
theorem dX5_share_11 : decode cX5_share 11 = .ok (.iconst 1, 1) := by decide +kernel
theorem dX5_share_12 : decode cX5_share 12 = .ok (.isub, 1) := by decide +kernel
theorem dX5_share_13 : decode cX5_share 13 = .ok (.invokestatic 79, 3) := by decide +kernel
theorem dX5_share_16 : decode cX5_share 16 = .ok (.ifCond .ne 7, 3) := by decide +kernel
theorem dX5_share_19 : decode cX5_share 19 = .ok (.ldc2_w 115, 3) := by decide +kernel
theorem dX5_share_22 : decode cX5_share 22 = .ok (.lreturn, 1) := by decide +kernel
theorem dX5_share_23 : decode cX5_share 23 = .ok (.iload_n 2, 1) := by decide +kernel
theorem dX5_share_24 : decode cX5_share 24 = .ok (.iconst 0, 1) := by decide +kernel
theorem dX5_share_25 : decode cX5_share 25 = .ok (.iconst 1, 1) := by decide +kernel
theorem dX5_share_26 : decode cX5_share 26 = .ok (.invokestatic 79, 3) := by decide +kernel
theorem dX5_share_29 : decode cX5_share 29 = .ok (.ifCond .eq 12, 3) := by decide +kernel
theorem dX5_share_32 : decode cX5_share 32 = .ok (.iload_n 3, 1) := by decide +kernel
theorem dX5_share_33 : decode cX5_share 33 = .ok (.iconst 0, 1) := by decide +kernel
theorem dX5_share_34 : decode cX5_share 34 = .ok (.iconst 1, 1) := by decide +kernel
theorem dX5_share_35 : decode cX5_share 35 = .ok (.invokestatic 79, 3) := by decide +kernel
theorem dX5_share_38 : decode cX5_share 38 = .ok (.ifCond .ne 7, 3) := by decide +kernel
theorem dX5_share_41 : decode cX5_share 41 = .ok (.ldc2_w 117, 3) := by decide +kernel
theorem dX5_share_44 : decode cX5_share 44 = .ok (.lreturn, 1) := by decide +kernel
theorem dX5_share_45 : decode cX5_share 45 = .ok (.iload_n 2, 1) := by decide +kernel
theorem dX5_share_46 : decode cX5_share 46 = .ok (.ifCond .ne 24, 3) := by decide +kernel
theorem dX5_share_49 : decode cX5_share 49 = .ok (.aload_n 0, 1) := by decide +kernel
theorem dX5_share_50 : decode cX5_share 50 = .ok (.getfield 39, 3) := by decide +kernel
theorem dX5_share_53 : decode cX5_share 53 = .ok (.iload_n 1, 1) := by decide +kernel
theorem dX5_share_54 : decode cX5_share 54 = .ok (.iaload, 1) := by decide +kernel
theorem dX5_share_55 : decode cX5_share 55 = .ok (.i2l, 1) := by decide +kernel
theorem dX5_share_56 : decode cX5_share 56 = .ok (.aload_n 0, 1) := by decide +kernel
theorem dX5_share_57 : decode cX5_share 57 = .ok (.getfield 36, 3) := by decide +kernel
theorem dX5_share_60 : decode cX5_share 60 = .ok (.iload_n 1, 1) := by decide +kernel
theorem dX5_share_61 : decode cX5_share 61 = .ok (.iaload, 1) := by decide +kernel
theorem dX5_share_62 : decode cX5_share 62 = .ok (.i2l, 1) := by decide +kernel
theorem dX5_share_63 : decode cX5_share 63 = .ok (.iload_n 3, 1) := by decide +kernel
theorem dX5_share_64 : decode cX5_share 64 = .ok (.invokestatic 119, 3) := by decide +kernel
theorem dX5_share_67 : decode cX5_share 67 = .ok (.goto 25, 3) := by decide +kernel
theorem dX5_share_70 : decode cX5_share 70 = .ok (.aload_n 0, 1) := by decide +kernel
theorem dX5_share_71 : decode cX5_share 71 = .ok (.getfield 39, 3) := by decide +kernel
theorem dX5_share_74 : decode cX5_share 74 = .ok (.iload_n 1, 1) := by decide +kernel
theorem dX5_share_75 : decode cX5_share 75 = .ok (.iaload, 1) := by decide +kernel
theorem dX5_share_76 : decode cX5_share 76 = .ok (.iconst 2, 1) := by decide +kernel
theorem dX5_share_77 : decode cX5_share 77 = .ok (.iadd, 1) := by decide +kernel
theorem dX5_share_78 : decode cX5_share 78 = .ok (.i2l, 1) := by decide +kernel
theorem dX5_share_79 : decode cX5_share 79 = .ok (.aload_n 0, 1) := by decide +kernel
theorem dX5_share_80 : decode cX5_share 80 = .ok (.getfield 36, 3) := by decide +kernel
theorem dX5_share_83 : decode cX5_share 83 = .ok (.iload_n 1, 1) := by decide +kernel
theorem dX5_share_84 : decode cX5_share 84 = .ok (.iaload, 1) := by decide +kernel
theorem dX5_share_85 : decode cX5_share 85 = .ok (.iconst 4, 1) := by decide +kernel
theorem dX5_share_86 : decode cX5_share 86 = .ok (.iadd, 1) := by decide +kernel
theorem dX5_share_87 : decode cX5_share 87 = .ok (.i2l, 1) := by decide +kernel
theorem dX5_share_88 : decode cX5_share 88 = .ok (.iload_n 3, 1) := by decide +kernel
theorem dX5_share_89 : decode cX5_share 89 = .ok (.invokestatic 119, 3) := by decide +kernel
theorem dX5_share_92 : decode cX5_share 92 = .ok (.lreturn, 1) := by decide +kernel
set_option maxRecDepth 20000 in
theorem ggX5_gap_X5_in : GoodIn wsX5_gap wsX5_in := goodIn_r _ [7] (by decide +kernel) (by decide +kernel)
set_option maxRecDepth 20000 in
theorem gX5_gap_X5_in : GoodIn wsX5_gap (va_wsS RX5 79 yX5_in wsX5_in) := goodIn_app (goodIn_of _ (by decide +kernel)) ggX5_gap_X5_in
set_option maxRecDepth 20000 in
theorem ggX5_gap_X5_rowsOf : GoodIn wsX5_gap wsX5_rowsOf := goodIn_r _ [11, 12, 13, 28, 29, 30, 31, 32, 33, 34, 35, 36, 37, 38, 39, 40, 41, 42, 43, 44, 45, 46, 47, 48, 49, 50, 51, 52, 53, 54, 55, 56, 57] (by decide +kernel) (by decide +kernel)
set_option maxRecDepth 20000 in
theorem gX5_gap_X5_rowsOf : GoodIn wsX5_gap (wsV RX5 107 RX5 yX5_rowsOf wsX5_rowsOf) := goodIn_app (goodIn_of _ (by decide +kernel)) ggX5_gap_X5_rowsOf
set_option maxRecDepth 20000 in
theorem ggX5_gap_X5_countOf : GoodIn wsX5_gap wsX5_countOf := goodIn_r _ [16] (by decide +kernel) (by decide +kernel)
