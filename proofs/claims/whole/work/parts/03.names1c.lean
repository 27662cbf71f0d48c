theorem dX4_shift_53 : decode cX4_shift 53 = .ok (.invokevirtual 143, 3) := by decide +kernel
theorem dX4_shift_56 : decode cX4_shift 56 = .ok (.lstore 7, 2) := by decide +kernel
theorem dX4_shift_58 : decode cX4_shift 58 = .ok (.aload_n 0, 1) := by decide +kernel
theorem dX4_shift_59 : decode cX4_shift 59 = .ok (.getfield 10, 3) := by decide +kernel
theorem dX4_shift_62 : decode cX4_shift 62 = .ok (.iload_n 2, 1) := by decide +kernel
theorem dX4_shift_63 : decode cX4_shift 63 = .ok (.iconst 1, 1) := by decide +kernel
theorem dX4_shift_64 : decode cX4_shift 64 = .ok (.invokevirtual 129, 3) := by decide +kernel
theorem dX4_shift_67 : decode cX4_shift 67 = .ok (.lstore 9, 2) := by decide +kernel
theorem dX4_shift_69 : decode cX4_shift 69 = .ok (.lload 9, 2) := by decide +kernel
theorem dX4_shift_71 : decode cX4_shift 71 = .ok (.aload_n 0, 1) := by decide +kernel
theorem dX4_shift_72 : decode cX4_shift 72 = .ok (.getfield 10, 3) := by decide +kernel
theorem dX4_shift_75 : decode cX4_shift 75 = .ok (.iload_n 2, 1) := by decide +kernel
theorem dX4_shift_76 : decode cX4_shift 76 = .ok (.iconst 0, 1) := by decide +kernel
theorem dX4_shift_77 : decode cX4_shift 77 = .ok (.invokevirtual 129, 3) := by decide +kernel
theorem dX4_shift_80 : decode cX4_shift 80 = .ok (.lor, 1) := by decide +kernel
theorem dX4_shift_81 : decode cX4_shift 81 = .ok (.lstore 11, 2) := by decide +kernel
theorem dX4_shift_83 : decode cX4_shift 83 = .ok (.lload 7, 2) := by decide +kernel
theorem dX4_shift_85 : decode cX4_shift 85 = .ok (.lload 11, 2) := by decide +kernel
theorem dX4_shift_87 : decode cX4_shift 87 = .ok (.land, 1) := by decide +kernel
theorem dX4_shift_88 : decode cX4_shift 88 = .ok (.aload_n 0, 1) := by decide +kernel
theorem dX4_shift_89 : decode cX4_shift 89 = .ok (.getfield 10, 3) := by decide +kernel
theorem dX4_shift_92 : decode cX4_shift 92 = .ok (.iload_n 1, 1) := by decide +kernel
theorem dX4_shift_93 : decode cX4_shift 93 = .ok (.iconst 1, 1) := by decide +kernel
theorem dX4_shift_94 : decode cX4_shift 94 = .ok (.invokevirtual 129, 3) := by decide +kernel
theorem dX4_shift_97 : decode cX4_shift 97 = .ok (.land, 1) := by decide +kernel
theorem dX4_shift_98 : decode cX4_shift 98 = .ok (.lstore 13, 2) := by decide +kernel
theorem dX4_shift_100 : decode cX4_shift 100 = .ok (.lload 7, 2) := by decide +kernel
theorem dX4_shift_102 : decode cX4_shift 102 = .ok (.lload 11, 2) := by decide +kernel
theorem dX4_shift_104 : decode cX4_shift 104 = .ok (.land, 1) := by decide +kernel
theorem dX4_shift_105 : decode cX4_shift 105 = .ok (.aload_n 0, 1) := by decide +kernel
theorem dX4_shift_106 : decode cX4_shift 106 = .ok (.getfield 10, 3) := by decide +kernel
theorem dX4_shift_109 : decode cX4_shift 109 = .ok (.iload_n 1, 1) := by decide +kernel
theorem dX4_shift_110 : decode cX4_shift 110 = .ok (.iconst 0, 1) := by decide +kernel
theorem dX4_shift_111 : decode cX4_shift 111 = .ok (.invokevirtual 129, 3) := by decide +kernel
theorem dX4_shift_114 : decode cX4_shift 114 = .ok (.land, 1) := by decide +kernel
theorem dX4_shift_115 : decode cX4_shift 115 = .ok (.lstore 15, 2) := by decide +kernel
theorem dX4_shift_117 : decode cX4_shift 117 = .ok (.lload 11, 2) := by decide +kernel
theorem dX4_shift_119 : decode cX4_shift 119 = .ok (.aload_n 0, 1) := by decide +kernel
theorem dX4_shift_120 : decode cX4_shift 120 = .ok (.getfield 10, 3) := by decide +kernel
theorem dX4_shift_123 : decode cX4_shift 123 = .ok (.iload 4, 2) := by decide +kernel
theorem dX4_shift_125 : decode cX4_shift 125 = .ok (.iload 5, 2) := by decide +kernel
theorem dX4_shift_127 : decode cX4_shift 127 = .ok (.invokevirtual 143, 3) := by decide +kernel
theorem dX4_shift_130 : decode cX4_shift 130 = .ok (.land, 1) := by decide +kernel
theorem dX4_shift_131 : decode cX4_shift 131 = .ok (.lstore 17, 2) := by decide +kernel
theorem dX4_shift_133 : decode cX4_shift 133 = .ok (.lload 13, 2) := by decide +kernel
theorem dX4_shift_135 : decode cX4_shift 135 = .ok (.lconst 0, 1) := by decide +kernel
theorem dX4_shift_136 : decode cX4_shift 136 = .ok (.lcmp, 1) := by decide +kernel
theorem dX4_shift_137 : decode cX4_shift 137 = .ok (.ifCond .eq 17, 3) := by decide +kernel
theorem dX4_shift_140 : decode cX4_shift 140 = .ok (.lload 15, 2) := by decide +kernel
theorem dX4_shift_142 : decode cX4_shift 142 = .ok (.lconst 0, 1) := by decide +kernel
theorem dX4_shift_143 : decode cX4_shift 143 = .ok (.lcmp, 1) := by decide +kernel
theorem dX4_shift_144 : decode cX4_shift 144 = .ok (.ifCond .eq 10, 3) := by decide +kernel
theorem dX4_shift_147 : decode cX4_shift 147 = .ok (.lload 17, 2) := by decide +kernel
theorem dX4_shift_149 : decode cX4_shift 149 = .ok (.lconst 0, 1) := by decide +kernel
theorem dX4_shift_150 : decode cX4_shift 150 = .ok (.lcmp, 1) := by decide +kernel
theorem dX4_shift_151 : decode cX4_shift 151 = .ok (.ifCond .ne 13, 3) := by decide +kernel
theorem dX4_shift_154 : decode cX4_shift 154 = .ok (.new 133, 3) := by decide +kernel
theorem dX4_shift_157 : decode cX4_shift 157 = .ok (.dup, 1) := by decide +kernel
theorem dX4_shift_158 : decode cX4_shift 158 = .ok (.ldc 178, 2) := by decide +kernel
theorem dX4_shift_160 : decode cX4_shift 160 = .ok (.invokespecial 137, 3) := by decide +kernel
theorem dX4_shift_163 : decode cX4_shift 163 = .ok (.athrow, 1) := by decide +kernel
theorem dX4_shift_164 : decode cX4_shift 164 = .ok (.lload 13, 2) := by decide +kernel
theorem dX4_shift_166 : decode cX4_shift 166 = .ok (.invokestatic 102, 3) := by decide +kernel
theorem dX4_shift_169 : decode cX4_shift 169 = .ok (.istore 19, 2) := by decide +kernel
theorem dX4_shift_171 : decode cX4_shift 171 = .ok (.lload 15, 2) := by decide +kernel
theorem dX4_shift_173 : decode cX4_shift 173 = .ok (.invokestatic 102, 3) := by decide +kernel
theorem dX4_shift_176 : decode cX4_shift 176 = .ok (.istore 20, 2) := by decide +kernel
theorem dX4_shift_178 : decode cX4_shift 178 = .ok (.lload 17, 2) := by decide +kernel
theorem dX4_shift_180 : decode cX4_shift 180 = .ok (.invokestatic 102, 3) := by decide +kernel
theorem dX4_shift_183 : decode cX4_shift 183 = .ok (.istore 21, 2) := by decide +kernel
theorem dX4_shift_185 : decode cX4_shift 185 = .ok (.lload 15, 2) := by decide +kernel
theorem dX4_shift_187 : decode cX4_shift 187 = .ok (.lload 9, 2) := by decide +kernel
theorem dX4_shift_189 : decode cX4_shift 189 = .ok (.land, 1) := by decide +kernel
theorem dX4_shift_190 : decode cX4_shift 190 = .ok (.invokestatic 102, 3) := by decide +kernel
theorem dX4_shift_193 : decode cX4_shift 193 = .ok (.istore 22, 2) := by decide +kernel
theorem dX4_shift_195 : decode cX4_shift 195 = .ok (.lload 13, 2) := by decide +kernel
theorem dX4_shift_197 : decode cX4_shift 197 = .ok (.lload 9, 2) := by decide +kernel
theorem dX4_shift_199 : decode cX4_shift 199 = .ok (.land, 1) := by decide +kernel
theorem dX4_shift_200 : decode cX4_shift 200 = .ok (.invokestatic 102, 3) := by decide +kernel
theorem dX4_shift_203 : decode cX4_shift 203 = .ok (.iload 20, 2) := by decide +kernel
theorem dX4_shift_205 : decode cX4_shift 205 = .ok (.imul, 1) := by decide +kernel
theorem dX4_shift_206 : decode cX4_shift 206 = .ok (.iload 22, 2) := by decide +kernel
theorem dX4_shift_208 : decode cX4_shift 208 = .ok (.iload 19, 2) := by decide +kernel
theorem dX4_shift_210 : decode cX4_shift 210 = .ok (.imul, 1) := by decide +kernel
theorem dX4_shift_211 : decode cX4_shift 211 = .ok (.isub, 1) := by decide +kernel
theorem dX4_shift_212 : decode cX4_shift 212 = .ok (.istore 23, 2) := by decide +kernel
theorem dX4_shift_214 : decode cX4_shift 214 = .ok (.iload 23, 2) := by decide +kernel
theorem dX4_shift_216 : decode cX4_shift 216 = .ok (.ifCond .ne 7, 3) := by decide +kernel
theorem dX4_shift_219 : decode cX4_shift 219 = .ok (.ldc2_w 170, 3) := by decide +kernel
theorem dX4_shift_222 : decode cX4_shift 222 = .ok (.lreturn, 1) := by decide +kernel
theorem dX4_shift_223 : decode cX4_shift 223 = .ok (.lload 17, 2) := by decide +kernel
theorem dX4_shift_225 : decode cX4_shift 225 = .ok (.lload 9, 2) := by decide +kernel
theorem dX4_shift_227 : decode cX4_shift 227 = .ok (.land, 1) := by decide +kernel
theorem dX4_shift_228 : decode cX4_shift 228 = .ok (.invokestatic 102, 3) := by decide +kernel
theorem dX4_shift_231 : decode cX4_shift 231 = .ok (.iload 20, 2) := by decide +kernel
theorem dX4_shift_233 : decode cX4_shift 233 = .ok (.imul, 1) := by decide +kernel
theorem dX4_shift_234 : decode cX4_shift 234 = .ok (.iload 22, 2) := by decide +kernel
theorem dX4_shift_236 : decode cX4_shift 236 = .ok (.iload 21, 2) := by decide +kernel
theorem dX4_shift_238 : decode cX4_shift 238 = .ok (.imul, 1) := by decide +kernel
theorem dX4_shift_239 : decode cX4_shift 239 = .ok (.isub, 1) := by decide +kernel
theorem dX4_shift_240 : decode cX4_shift 240 = .ok (.istore 24, 2) := by decide +kernel
theorem dX4_shift_242 : decode cX4_shift 242 = .ok (.iload 24, 2) := by decide +kernel
theorem dX4_shift_244 : decode cX4_shift 244 = .ok (.iload 19, 2) := by decide +kernel
theorem dX4_shift_246 : decode cX4_shift 246 = .ok (.imul, 1) := by decide +kernel
theorem dX4_shift_247 : decode cX4_shift 247 = .ok (.i2l, 1) := by decide +kernel
theorem dX4_shift_248 : decode cX4_shift 248 = .ok (.iload 23, 2) := by decide +kernel
theorem dX4_shift_250 : decode cX4_shift 250 = .ok (.iload 21, 2) := by decide +kernel
theorem dX4_shift_252 : decode cX4_shift 252 = .ok (.imul, 1) := by decide +kernel
theorem dX4_shift_253 : decode cX4_shift 253 = .ok (.i2l, 1) := by decide +kernel
theorem dX4_shift_254 : decode cX4_shift 254 = .ok (.iload 6, 2) := by decide +kernel
theorem dX4_shift_256 : decode cX4_shift 256 = .ok (.invokestatic 116, 3) := by decide +kernel
theorem dX4_shift_259 : decode cX4_shift 259 = .ok (.lreturn, 1) := by decide +kernel
set_option maxRecDepth 20000 in
theorem ggX4_order_X4_isColumn : GoodIn wsX4_order wsX4_isColumn := goodIn_r _ [9, 10, 11, 8, 12] (by decide +kernel) (by decide +kernel)
set_option maxRecDepth 20000 in
theorem gX4_order_X4_isColumn : GoodIn wsX4_order (va_wsS RX4 55 yX4_isColumn wsX4_isColumn) := goodIn_app (goodIn_of _ (by decide +kernel)) ggX4_order_X4_isColumn
set_option maxRecDepth 20000 in
theorem ggX4_order_X4_areTimes : GoodIn wsX4_order wsX4_areTimes := goodIn_r _ [15] (by decide +kernel) (by decide +kernel)
set_option maxRecDepth 20000 in
theorem gX4_order_X4_areTimes : GoodIn wsX4_order (va_wsS RX4 140 yX4_areTimes wsX4_areTimes) := goodIn_app (goodIn_of _ (by decide +kernel)) ggX4_order_X4_areTimes
set_option maxRecDepth 20000 in
theorem ggX4_order_X2_between : GoodIn wsX4_order wsX2_between := goodIn_r _ [20, 21, 22, 53, 54, 55, 56] (by decide +kernel) (by decide +kernel)
set_option maxRecDepth 20000 in
theorem gX4_order_X2_between : GoodIn wsX4_order (wsV RX4 143 RX2 yX2_between wsX2_between) := goodIn_app (goodIn_of _ (by decide +kernel)) ggX4_order_X2_between
set_option maxRecDepth 20000 in
theorem ggX4_order_X2_placeByDrift : GoodIn wsX4_order wsX2_placeByDrift := goodIn_r _ [26, 27, 28, 29, 19, 30, 31, 32, 33, 34, 35, 36, 37, 38, 39, 40, 41, 42, 43, 44, 45, 46, 47, 8, 48, 53, 54, 55, 56] (by decide +kernel) (by decide +kernel)
set_option maxRecDepth 20000 in
theorem gX4_order_X2_placeByDrift : GoodIn wsX4_order (wsV RX4 180 RX2 yX2_placeByDrift wsX2_placeByDrift) := goodIn_app (goodIn_of _ (by decide +kernel)) ggX4_order_X2_placeByDrift
theorem dX4_order_0 : decode cX4_order 0 = .ok (.iload 4, 2) := by decide +kernel
theorem dX4_order_2 : decode cX4_order 2 = .ok (.invokestatic 55, 3) := by decide +kernel
theorem dX4_order_5 : decode cX4_order 5 = .ok (.ifCond .ne 6, 3) := by decide +kernel
theorem dX4_order_8 : decode cX4_order 8 = .ok (.ldc 58, 2) := by decide +kernel
theorem dX4_order_10 : decode cX4_order 10 = .ok (.ireturn, 1) := by decide +kernel
theorem dX4_order_11 : decode cX4_order 11 = .ok (.iload_n 1, 1) := by decide +kernel
theorem dX4_order_12 : decode cX4_order 12 = .ok (.iload_n 2, 1) := by decide +kernel
theorem dX4_order_13 : decode cX4_order 13 = .ok (.iload_n 3, 1) := by decide +kernel
theorem dX4_order_14 : decode cX4_order 14 = .ok (.invokestatic 140, 3) := by decide +kernel
theorem dX4_order_17 : decode cX4_order 17 = .ok (.ifCond .ne 6, 3) := by decide +kernel
theorem dX4_order_20 : decode cX4_order 20 = .ok (.ldc 41, 2) := by decide +kernel
theorem dX4_order_22 : decode cX4_order 22 = .ok (.ireturn, 1) := by decide +kernel
theorem dX4_order_23 : decode cX4_order 23 = .ok (.aload_n 0, 1) := by decide +kernel
theorem dX4_order_24 : decode cX4_order 24 = .ok (.getfield 10, 3) := by decide +kernel
theorem dX4_order_27 : decode cX4_order 27 = .ok (.iload_n 1, 1) := by decide +kernel
theorem dX4_order_28 : decode cX4_order 28 = .ok (.iload_n 2, 1) := by decide +kernel
theorem dX4_order_29 : decode cX4_order 29 = .ok (.invokevirtual 143, 3) := by decide +kernel
theorem dX4_order_32 : decode cX4_order 32 = .ok (.lstore 5, 2) := by decide +kernel
theorem dX4_order_34 : decode cX4_order 34 = .ok (.aload_n 0, 1) := by decide +kernel
theorem dX4_order_35 : decode cX4_order 35 = .ok (.getfield 10, 3) := by decide +kernel
theorem dX4_order_38 : decode cX4_order 38 = .ok (.iload_n 2, 1) := by decide +kernel
theorem dX4_order_39 : decode cX4_order 39 = .ok (.iload_n 3, 1) := by decide +kernel
theorem dX4_order_40 : decode cX4_order 40 = .ok (.invokevirtual 143, 3) := by decide +kernel
theorem dX4_order_43 : decode cX4_order 43 = .ok (.lstore 7, 2) := by decide +kernel
theorem dX4_order_45 : decode cX4_order 45 = .ok (.lload 5, 2) := by decide +kernel
theorem dX4_order_47 : decode cX4_order 47 = .ok (.lconst 0, 1) := by decide +kernel
theorem dX4_order_48 : decode cX4_order 48 = .ok (.lcmp, 1) := by decide +kernel
theorem dX4_order_49 : decode cX4_order 49 = .ok (.ifCond .eq 10, 3) := by decide +kernel
theorem dX4_order_52 : decode cX4_order 52 = .ok (.lload 7, 2) := by decide +kernel
theorem dX4_order_54 : decode cX4_order 54 = .ok (.lconst 0, 1) := by decide +kernel
theorem dX4_order_55 : decode cX4_order 55 = .ok (.lcmp, 1) := by decide +kernel
theorem dX4_order_56 : decode cX4_order 56 = .ok (.ifCond .ne 13, 3) := by decide +kernel
theorem dX4_order_59 : decode cX4_order 59 = .ok (.new 133, 3) := by decide +kernel
theorem dX4_order_62 : decode cX4_order 62 = .ok (.dup, 1) := by decide +kernel
theorem dX4_order_63 : decode cX4_order 63 = .ok (.ldc 146, 2) := by decide +kernel
theorem dX4_order_65 : decode cX4_order 65 = .ok (.invokespecial 137, 3) := by decide +kernel
theorem dX4_order_68 : decode cX4_order 68 = .ok (.athrow, 1) := by decide +kernel
theorem dX4_order_69 : decode cX4_order 69 = .ok (.iconst 0, 1) := by decide +kernel
theorem dX4_order_70 : decode cX4_order 70 = .ok (.istore 9, 2) := by decide +kernel
theorem dX4_order_72 : decode cX4_order 72 = .ok (.iload 9, 2) := by decide +kernel
theorem dX4_order_74 : decode cX4_order 74 = .ok (.iconst 5, 1) := by decide +kernel
theorem dX4_order_75 : decode cX4_order 75 = .ok (.if_icmp .ge 30, 3) := by decide +kernel
theorem dX4_order_78 : decode cX4_order 78 = .ok (.aload_n 0, 1) := by decide +kernel
theorem dX4_order_79 : decode cX4_order 79 = .ok (.getfield 10, 3) := by decide +kernel
theorem dX4_order_82 : decode cX4_order 82 = .ok (.iload 9, 2) := by decide +kernel
theorem dX4_order_84 : decode cX4_order 84 = .ok (.lload 5, 2) := by decide +kernel
theorem dX4_order_86 : decode cX4_order 86 = .ok (.lload 7, 2) := by decide +kernel
theorem dX4_order_88 : decode cX4_order 88 = .ok (.invokevirtual 180, 3) := by decide +kernel
theorem dX4_order_91 : decode cX4_order 91 = .ok (.iload 4, 2) := by decide +kernel
theorem dX4_order_93 : decode cX4_order 93 = .ok (.if_icmp .ne 6, 3) := by decide +kernel
theorem dX4_order_96 : decode cX4_order 96 = .ok (.iload 9, 2) := by decide +kernel
theorem dX4_order_98 : decode cX4_order 98 = .ok (.ireturn, 1) := by decide +kernel
theorem dX4_order_99 : decode cX4_order 99 = .ok (.iinc 9 1, 3) := by decide +kernel
theorem dX4_order_102 : decode cX4_order 102 = .ok (.goto (-30), 3) := by decide +kernel
theorem dX4_order_105 : decode cX4_order 105 = .ok (.iconst (-1), 1) := by decide +kernel
theorem dX4_order_106 : decode cX4_order 106 = .ok (.ireturn, 1) := by decide +kernel
set_option maxRecDepth 20000 in
theorem ggX4_watch_X4_isColumn : GoodIn wsX4_watch wsX4_isColumn := goodIn_r _ [9, 10, 11, 8, 12] (by decide +kernel) (by decide +kernel)
set_option maxRecDepth 20000 in
theorem gX4_watch_X4_isColumn : GoodIn wsX4_watch (va_wsS RX4 55 yX4_isColumn wsX4_isColumn) := goodIn_app (goodIn_of _ (by decide +kernel)) ggX4_watch_X4_isColumn
set_option maxRecDepth 20000 in
theorem ggX4_watch_X4_isWithin : GoodIn wsX4_watch wsX4_isWithin := goodIn_r _ [12] (by decide +kernel) (by decide +kernel)
set_option maxRecDepth 20000 in
theorem gX4_watch_X4_isWithin : GoodIn wsX4_watch (va_wsS RX4 37 yX4_isWithin wsX4_isWithin) := goodIn_app (goodIn_of _ (by decide +kernel)) ggX4_watch_X4_isWithin
set_option maxRecDepth 20000 in
theorem ggX4_watch_X2_between : GoodIn wsX4_watch wsX2_between := goodIn_r _ [17, 18, 19, 78, 79, 80, 81] (by decide +kernel) (by decide +kernel)
set_option maxRecDepth 20000 in
theorem gX4_watch_X2_between : GoodIn wsX4_watch (wsV RX4 143 RX2 yX2_between wsX2_between) := goodIn_app (goodIn_of _ (by decide +kernel)) ggX4_watch_X2_between
set_option maxRecDepth 20000 in
theorem ggX4_watch_X0_begin : GoodIn wsX4_watch wsX0_begin := goodIn_r _ [24, 25, 26, 27, 28, 29, 30, 23, 31, 82, 83, 84, 85, 86, 87, 88] (by decide +kernel) (by decide +kernel)
set_option maxRecDepth 20000 in
theorem gX4_watch_X0_begin : GoodIn wsX4_watch (wsV RX4 184 RX0 yX0_begin wsX0_begin) := goodIn_app (goodIn_of _ (by decide +kernel)) ggX4_watch_X0_begin
set_option maxRecDepth 20000 in
theorem ggX4_watch_X0_measure : GoodIn wsX4_watch wsX0_measure := goodIn_r _ [35, 25, 27, 36, 37, 38, 39, 40, 41, 42, 14, 15, 16, 17, 18, 19, 28, 29, 30, 23, 31, 26, 43, 44, 45, 46, 47, 48, 49, 50, 51, 52, 53, 54, 55, 56, 57, 58, 59, 60, 61, 62, 63, 8, 64, 65, 66, 67, 82, 83, 84, 85, 86, 87, 88, 78, 79, 80, 81] (by decide +kernel) (by decide +kernel)
set_option maxRecDepth 20000 in
theorem gX4_watch_X0_measure : GoodIn wsX4_watch (wsV RX4 188 RX0 yX0_measure wsX0_measure) := goodIn_app (goodIn_of _ (by decide +kernel)) ggX4_watch_X0_measure
set_option maxRecDepth 20000 in
theorem ggX4_watch_X0_raise : GoodIn wsX4_watch wsX0_raise := goodIn_r _ [71, 72, 27, 41, 40, 73, 82, 83, 84, 85, 86, 87, 88] (by decide +kernel) (by decide +kernel)
set_option maxRecDepth 20000 in
theorem gX4_watch_X0_raise : GoodIn wsX4_watch (wsV RX4 192 RX0 yX0_raise wsX0_raise) := goodIn_app (goodIn_of _ (by decide +kernel)) ggX4_watch_X0_raise
theorem dX4_watch_0 : decode cX4_watch 0 = .ok (.iload_n 1, 1) := by decide +kernel
theorem dX4_watch_1 : decode cX4_watch 1 = .ok (.invokestatic 55, 3) := by decide +kernel
theorem dX4_watch_4 : decode cX4_watch 4 = .ok (.ifCond .ne 6, 3) := by decide +kernel
theorem dX4_watch_7 : decode cX4_watch 7 = .ok (.ldc 58, 2) := by decide +kernel
theorem dX4_watch_9 : decode cX4_watch 9 = .ok (.ireturn, 1) := by decide +kernel
theorem dX4_watch_10 : decode cX4_watch 10 = .ok (.iload_n 2, 1) := by decide +kernel
theorem dX4_watch_11 : decode cX4_watch 11 = .ok (.iconst 1, 1) := by decide +kernel
theorem dX4_watch_12 : decode cX4_watch 12 = .ok (.sipush 999, 3) := by decide +kernel
theorem dX4_watch_15 : decode cX4_watch 15 = .ok (.invokestatic 37, 3) := by decide +kernel
theorem dX4_watch_18 : decode cX4_watch 18 = .ok (.ifCond .eq 37, 3) := by decide +kernel
theorem dX4_watch_21 : decode cX4_watch 21 = .ok (.iload_n 3, 1) := by decide +kernel
theorem dX4_watch_22 : decode cX4_watch 22 = .ok (.iconst 1, 1) := by decide +kernel
theorem dX4_watch_23 : decode cX4_watch 23 = .ok (.sipush 999, 3) := by decide +kernel
theorem dX4_watch_26 : decode cX4_watch 26 = .ok (.invokestatic 37, 3) := by decide +kernel
theorem dX4_watch_29 : decode cX4_watch 29 = .ok (.ifCond .eq 26, 3) := by decide +kernel
theorem dX4_watch_32 : decode cX4_watch 32 = .ok (.iload 4, 2) := by decide +kernel
theorem dX4_watch_34 : decode cX4_watch 34 = .ok (.iconst 1, 1) := by decide +kernel
theorem dX4_watch_35 : decode cX4_watch 35 = .ok (.bipush 100, 2) := by decide +kernel
theorem dX4_watch_37 : decode cX4_watch 37 = .ok (.invokestatic 37, 3) := by decide +kernel
theorem dX4_watch_40 : decode cX4_watch 40 = .ok (.ifCond .eq 15, 3) := by decide +kernel
theorem dX4_watch_43 : decode cX4_watch 43 = .ok (.iload 5, 2) := by decide +kernel
theorem dX4_watch_45 : decode cX4_watch 45 = .ok (.iconst 1, 1) := by decide +kernel
theorem dX4_watch_46 : decode cX4_watch 46 = .ok (.sipush 1000, 3) := by decide +kernel
theorem dX4_watch_49 : decode cX4_watch 49 = .ok (.invokestatic 37, 3) := by decide +kernel
theorem dX4_watch_52 : decode cX4_watch 52 = .ok (.ifCond .ne 6, 3) := by decide +kernel
theorem dX4_watch_55 : decode cX4_watch 55 = .ok (.ldc 41, 2) := by decide +kernel
theorem dX4_watch_57 : decode cX4_watch 57 = .ok (.ireturn, 1) := by decide +kernel
theorem dX4_watch_58 : decode cX4_watch 58 = .ok (.aload_n 0, 1) := by decide +kernel
theorem dX4_watch_59 : decode cX4_watch 59 = .ok (.getfield 10, 3) := by decide +kernel
theorem dX4_watch_62 : decode cX4_watch 62 = .ok (.iconst 0, 1) := by decide +kernel
theorem dX4_watch_63 : decode cX4_watch 63 = .ok (.iload_n 2, 1) := by decide +kernel
theorem dX4_watch_64 : decode cX4_watch 64 = .ok (.invokevirtual 143, 3) := by decide +kernel
theorem dX4_watch_67 : decode cX4_watch 67 = .ok (.lconst 0, 1) := by decide +kernel
theorem dX4_watch_68 : decode cX4_watch 68 = .ok (.lcmp, 1) := by decide +kernel
theorem dX4_watch_69 : decode cX4_watch 69 = .ok (.ifCond .ne 6, 3) := by decide +kernel
theorem dX4_watch_72 : decode cX4_watch 72 = .ok (.ldc 183, 2) := by decide +kernel
theorem dX4_watch_74 : decode cX4_watch 74 = .ok (.ireturn, 1) := by decide +kernel
theorem dX4_watch_75 : decode cX4_watch 75 = .ok (.aload_n 0, 1) := by decide +kernel
theorem dX4_watch_76 : decode cX4_watch 76 = .ok (.getfield 33, 3) := by decide +kernel
theorem dX4_watch_79 : decode cX4_watch 79 = .ok (.iload_n 2, 1) := by decide +kernel
theorem dX4_watch_80 : decode cX4_watch 80 = .ok (.iload_n 3, 1) := by decide +kernel
theorem dX4_watch_81 : decode cX4_watch 81 = .ok (.invokevirtual 184, 3) := by decide +kernel
theorem dX4_watch_84 : decode cX4_watch 84 = .ok (.aload_n 0, 1) := by decide +kernel
theorem dX4_watch_85 : decode cX4_watch 85 = .ok (.getfield 33, 3) := by decide +kernel
theorem dX4_watch_88 : decode cX4_watch 88 = .ok (.aload_n 0, 1) := by decide +kernel
theorem dX4_watch_89 : decode cX4_watch 89 = .ok (.getfield 10, 3) := by decide +kernel
theorem dX4_watch_92 : decode cX4_watch 92 = .ok (.iload_n 1, 1) := by decide +kernel
theorem dX4_watch_93 : decode cX4_watch 93 = .ok (.iload 5, 2) := by decide +kernel
theorem dX4_watch_95 : decode cX4_watch 95 = .ok (.invokevirtual 188, 3) := by decide +kernel
theorem dX4_watch_98 : decode cX4_watch 98 = .ok (.aload_n 0, 1) := by decide +kernel
theorem dX4_watch_99 : decode cX4_watch 99 = .ok (.getfield 33, 3) := by decide +kernel
theorem dX4_watch_102 : decode cX4_watch 102 = .ok (.iload 4, 2) := by decide +kernel
theorem dX4_watch_104 : decode cX4_watch 104 = .ok (.invokevirtual 192, 3) := by decide +kernel
theorem dX4_watch_107 : decode cX4_watch 107 = .ok (.ireturn, 1) := by decide +kernel
set_option maxRecDepth 20000 in
theorem ggX4_step_X4_isWithin : GoodIn wsX4_step wsX4_isWithin := goodIn_r _ [6] (by decide +kernel) (by decide +kernel)
set_option maxRecDepth 20000 in
theorem gX4_step_X4_isWithin : GoodIn wsX4_step (va_wsS RX4 37 yX4_isWithin wsX4_isWithin) := goodIn_app (goodIn_of _ (by decide +kernel)) ggX4_step_X4_isWithin
set_option maxRecDepth 20000 in
theorem ggX4_step_X4_asNumber : GoodIn wsX4_step wsX4_asNumber := goodIn_r _ [9] (by decide +kernel) (by decide +kernel)
set_option maxRecDepth 20000 in
theorem gX4_step_X4_asNumber : GoodIn wsX4_step (va_wsS RX4 71 yX4_asNumber wsX4_asNumber) := goodIn_app (goodIn_of _ (by decide +kernel)) ggX4_step_X4_asNumber
set_option maxRecDepth 20000 in
theorem ggX4_step_X0_beginOf : GoodIn wsX4_step wsX0_beginOf := goodIn_r _ [14, 15, 16, 21, 22, 23, 24, 25, 26, 27] (by decide +kernel) (by decide +kernel)
set_option maxRecDepth 20000 in
theorem gX4_step_X0_beginOf : GoodIn wsX4_step (wsV RX4 206 RX0 yX0_beginOf wsX0_beginOf) := goodIn_app (goodIn_of _ (by decide +kernel)) ggX4_step_X0_beginOf
theorem dX4_step_0 : decode cX4_step 0 = .ok (.iload_n 1, 1) := by decide +kernel
theorem dX4_step_1 : decode cX4_step 1 = .ok (.iconst 0, 1) := by decide +kernel
theorem dX4_step_2 : decode cX4_step 2 = .ok (.aload_n 0, 1) := by decide +kernel
theorem dX4_step_3 : decode cX4_step 3 = .ok (.getfield 33, 3) := by decide +kernel
theorem dX4_step_6 : decode cX4_step 6 = .ok (.getfield 195, 3) := by decide +kernel
theorem dX4_step_9 : decode cX4_step 9 = .ok (.iconst 1, 1) := by decide +kernel
theorem dX4_step_10 : decode cX4_step 10 = .ok (.isub, 1) := by decide +kernel
theorem dX4_step_11 : decode cX4_step 11 = .ok (.invokestatic 37, 3) := by decide +kernel
theorem dX4_step_14 : decode cX4_step 14 = .ok (.ifCond .ne 6, 3) := by decide +kernel
theorem dX4_step_17 : decode cX4_step 17 = .ok (.ldc 58, 2) := by decide +kernel
theorem dX4_step_19 : decode cX4_step 19 = .ok (.ireturn, 1) := by decide +kernel
theorem dX4_step_20 : decode cX4_step 20 = .ok (.iload_n 2, 1) := by decide +kernel
theorem dX4_step_21 : decode cX4_step 21 = .ok (.tableswitch 76 0 3 #[31, 44, 57, 67], 31) := by decide +kernel
theorem dX4_step_52 : decode cX4_step 52 = .ok (.aload_n 0, 1) := by decide +kernel
theorem dX4_step_53 : decode cX4_step 53 = .ok (.getfield 33, 3) := by decide +kernel
theorem dX4_step_56 : decode cX4_step 56 = .ok (.getfield 196, 3) := by decide +kernel
theorem dX4_step_59 : decode cX4_step 59 = .ok (.iload_n 1, 1) := by decide +kernel
theorem dX4_step_60 : decode cX4_step 60 = .ok (.baload, 1) := by decide +kernel
theorem dX4_step_61 : decode cX4_step 61 = .ok (.invokestatic 71, 3) := by decide +kernel
theorem dX4_step_64 : decode cX4_step 64 = .ok (.ireturn, 1) := by decide +kernel
theorem dX4_step_65 : decode cX4_step 65 = .ok (.aload_n 0, 1) := by decide +kernel
theorem dX4_step_66 : decode cX4_step 66 = .ok (.getfield 33, 3) := by decide +kernel
theorem dX4_step_69 : decode cX4_step 69 = .ok (.getfield 200, 3) := by decide +kernel
theorem dX4_step_72 : decode cX4_step 72 = .ok (.iload_n 1, 1) := by decide +kernel
theorem dX4_step_73 : decode cX4_step 73 = .ok (.baload, 1) := by decide +kernel
theorem dX4_step_74 : decode cX4_step 74 = .ok (.invokestatic 71, 3) := by decide +kernel
theorem dX4_step_77 : decode cX4_step 77 = .ok (.ireturn, 1) := by decide +kernel
theorem dX4_step_78 : decode cX4_step 78 = .ok (.aload_n 0, 1) := by decide +kernel
theorem dX4_step_79 : decode cX4_step 79 = .ok (.getfield 33, 3) := by decide +kernel
theorem dX4_step_82 : decode cX4_step 82 = .ok (.getfield 203, 3) := by decide +kernel
theorem dX4_step_85 : decode cX4_step 85 = .ok (.iload_n 1, 1) := by decide +kernel
theorem dX4_step_86 : decode cX4_step 86 = .ok (.iaload, 1) := by decide +kernel
theorem dX4_step_87 : decode cX4_step 87 = .ok (.ireturn, 1) := by decide +kernel
theorem dX4_step_88 : decode cX4_step 88 = .ok (.aload_n 0, 1) := by decide +kernel
theorem dX4_step_89 : decode cX4_step 89 = .ok (.getfield 33, 3) := by decide +kernel
theorem dX4_step_92 : decode cX4_step 92 = .ok (.iload_n 1, 1) := by decide +kernel
theorem dX4_step_93 : decode cX4_step 93 = .ok (.invokevirtual 206, 3) := by decide +kernel
theorem dX4_step_96 : decode cX4_step 96 = .ok (.ireturn, 1) := by decide +kernel
theorem dX4_step_97 : decode cX4_step 97 = .ok (.ldc 58, 2) := by decide +kernel
theorem dX4_step_99 : decode cX4_step 99 = .ok (.ireturn, 1) := by decide +kernel
set_option maxRecDepth 20000 in
theorem ggX4_count_J13_bitCount_95d88 : GoodIn wsX4_count wsJ13_bitCount_95d88 := goodIn_r _ [8, 9, 10, 11] (by decide +kernel) (by decide +kernel)
set_option maxRecDepth 20000 in
theorem gX4_count_J13_bitCount_95d88 : GoodIn wsX4_count (va_wsS RX4 102 yJ13_bitCount_95d88 wsJ13_bitCount_95d88) := goodIn_app (goodIn_of _ (by decide +kernel)) ggX4_count_J13_bitCount_95d88
set_option maxRecDepth 20000 in
theorem ggX4_count_X2_lackingSome : GoodIn wsX4_count wsX2_lackingSome := goodIn_r _ [16, 17, 18, 19, 15, 20, 21, 22, 23, 24, 29, 30, 31, 32] (by decide +kernel) (by decide +kernel)
set_option maxRecDepth 20000 in
theorem gX4_count_X2_lackingSome : GoodIn wsX4_count (wsV RX4 212 RX2 yX2_lackingSome wsX2_lackingSome) := goodIn_app (goodIn_of _ (by decide +kernel)) ggX4_count_X2_lackingSome
theorem dX4_count_0 : decode cX4_count 0 = .ok (.iload_n 1, 1) := by decide +kernel
theorem dX4_count_1 : decode cX4_count 1 = .ok (.tableswitch 93 0 5 #[39, 47, 58, 66, 74, 82], 39) := by decide +kernel
theorem dX4_count_40 : decode cX4_count 40 = .ok (.aload_n 0, 1) := by decide +kernel
theorem dX4_count_41 : decode cX4_count 41 = .ok (.getfield 10, 3) := by decide +kernel
theorem dX4_count_44 : decode cX4_count 44 = .ok (.getfield 42, 3) := by decide +kernel
theorem dX4_count_47 : decode cX4_count 47 = .ok (.ireturn, 1) := by decide +kernel
theorem dX4_count_48 : decode cX4_count 48 = .ok (.aload_n 0, 1) := by decide +kernel
theorem dX4_count_49 : decode cX4_count 49 = .ok (.getfield 10, 3) := by decide +kernel
theorem dX4_count_52 : decode cX4_count 52 = .ok (.getfield 67, 3) := by decide +kernel
theorem dX4_count_55 : decode cX4_count 55 = .ok (.invokestatic 102, 3) := by decide +kernel
theorem dX4_count_58 : decode cX4_count 58 = .ok (.ireturn, 1) := by decide +kernel
theorem dX4_count_59 : decode cX4_count 59 = .ok (.aload_n 0, 1) := by decide +kernel
theorem dX4_count_60 : decode cX4_count 60 = .ok (.getfield 19, 3) := by decide +kernel
theorem dX4_count_63 : decode cX4_count 63 = .ok (.getfield 83, 3) := by decide +kernel
theorem dX4_count_66 : decode cX4_count 66 = .ok (.ireturn, 1) := by decide +kernel
theorem dX4_count_67 : decode cX4_count 67 = .ok (.aload_n 0, 1) := by decide +kernel
theorem dX4_count_68 : decode cX4_count 68 = .ok (.getfield 33, 3) := by decide +kernel
theorem dX4_count_71 : decode cX4_count 71 = .ok (.getfield 195, 3) := by decide +kernel
theorem dX4_count_74 : decode cX4_count 74 = .ok (.ireturn, 1) := by decide +kernel
theorem dX4_count_75 : decode cX4_count 75 = .ok (.aload_n 0, 1) := by decide +kernel
theorem dX4_count_76 : decode cX4_count 76 = .ok (.getfield 33, 3) := by decide +kernel
theorem dX4_count_79 : decode cX4_count 79 = .ok (.getfield 209, 3) := by decide +kernel
theorem dX4_count_82 : decode cX4_count 82 = .ok (.ireturn, 1) := by decide +kernel
theorem dX4_count_83 : decode cX4_count 83 = .ok (.aload_n 0, 1) := by decide +kernel
theorem dX4_count_84 : decode cX4_count 84 = .ok (.getfield 10, 3) := by decide +kernel
theorem dX4_count_87 : decode cX4_count 87 = .ok (.invokevirtual 212, 3) := by decide +kernel
theorem dX4_count_90 : decode cX4_count 90 = .ok (.invokestatic 102, 3) := by decide +kernel
theorem dX4_count_93 : decode cX4_count 93 = .ok (.ireturn, 1) := by decide +kernel
theorem dX4_count_94 : decode cX4_count 94 = .ok (.ldc 58, 2) := by decide +kernel
theorem dX4_count_96 : decode cX4_count 96 = .ok (.ireturn, 1) := by decide +kernel
theorem dX4_isWithin_0 : decode cX4_isWithin 0 = .ok (.iload_n 0, 1) := by decide +kernel
theorem dX4_isWithin_1 : decode cX4_isWithin 1 = .ok (.iload_n 1, 1) := by decide +kernel
theorem dX4_isWithin_2 : decode cX4_isWithin 2 = .ok (.if_icmp .lt 12, 3) := by decide +kernel
theorem dX4_isWithin_5 : decode cX4_isWithin 5 = .ok (.iload_n 0, 1) := by decide +kernel
theorem dX4_isWithin_6 : decode cX4_isWithin 6 = .ok (.iload_n 2, 1) := by decide +kernel
theorem dX4_isWithin_7 : decode cX4_isWithin 7 = .ok (.if_icmp .gt 7, 3) := by decide +kernel
theorem dX4_isWithin_10 : decode cX4_isWithin 10 = .ok (.iconst 1, 1) := by decide +kernel
theorem dX4_isWithin_11 : decode cX4_isWithin 11 = .ok (.goto 4, 3) := by decide +kernel
theorem dX4_isWithin_14 : decode cX4_isWithin 14 = .ok (.iconst 0, 1) := by decide +kernel
theorem dX4_isWithin_15 : decode cX4_isWithin 15 = .ok (.ireturn, 1) := by decide +kernel
set_option maxRecDepth 20000 in
theorem ggX4_isColumn_X4_isWithin : GoodIn wsX4_isColumn wsX4_isWithin := goodIn_r _ [4] (by decide +kernel) (by decide +kernel)
set_option maxRecDepth 20000 in
theorem gX4_isColumn_X4_isWithin : GoodIn wsX4_isColumn (va_wsS RX4 37 yX4_isWithin wsX4_isWithin) := goodIn_app (goodIn_of _ (by decide +kernel)) ggX4_isColumn_X4_isWithin
theorem dX4_isColumn_0 : decode cX4_isColumn 0 = .ok (.iload_n 0, 1) := by decide +kernel
theorem dX4_isColumn_1 : decode cX4_isColumn 1 = .ok (.iconst 0, 1) := by decide +kernel
theorem dX4_isColumn_2 : decode cX4_isColumn 2 = .ok (.iconst 4, 1) := by decide +kernel
theorem dX4_isColumn_3 : decode cX4_isColumn 3 = .ok (.invokestatic 37, 3) := by decide +kernel
theorem dX4_isColumn_6 : decode cX4_isColumn 6 = .ok (.ireturn, 1) := by decide +kernel
set_option maxRecDepth 20000 in
theorem ggX4_isSort_X4_isWithin : GoodIn wsX4_isSort wsX4_isWithin := goodIn_r _ [4] (by decide +kernel) (by decide +kernel)
set_option maxRecDepth 20000 in
theorem gX4_isSort_X4_isWithin : GoodIn wsX4_isSort (va_wsS RX4 37 yX4_isWithin wsX4_isWithin) := goodIn_app (goodIn_of _ (by decide +kernel)) ggX4_isSort_X4_isWithin
theorem dX4_isSort_0 : decode cX4_isSort 0 = .ok (.iload_n 0, 1) := by decide +kernel
theorem dX4_isSort_1 : decode cX4_isSort 1 = .ok (.iconst 0, 1) := by decide +kernel
theorem dX4_isSort_2 : decode cX4_isSort 2 = .ok (.bipush 10, 2) := by decide +kernel
theorem dX4_isSort_4 : decode cX4_isSort 4 = .ok (.invokestatic 37, 3) := by decide +kernel
theorem dX4_isSort_7 : decode cX4_isSort 7 = .ok (.ireturn, 1) := by decide +kernel
set_option maxRecDepth 20000 in
theorem ggX4_isPart_X4_isWithin : GoodIn wsX4_isPart wsX4_isWithin := goodIn_r _ [4] (by decide +kernel) (by decide +kernel)
set_option maxRecDepth 20000 in
theorem gX4_isPart_X4_isWithin : GoodIn wsX4_isPart (va_wsS RX4 37 yX4_isWithin wsX4_isWithin) := goodIn_app (goodIn_of _ (by decide +kernel)) ggX4_isPart_X4_isWithin
theorem dX4_isPart_0 : decode cX4_isPart 0 = .ok (.iload_n 0, 1) := by decide +kernel
theorem dX4_isPart_1 : decode cX4_isPart 1 = .ok (.iconst 0, 1) := by decide +kernel
theorem dX4_isPart_2 : decode cX4_isPart 2 = .ok (.iconst 1, 1) := by decide +kernel
theorem dX4_isPart_3 : decode cX4_isPart 3 = .ok (.invokestatic 37, 3) := by decide +kernel
theorem dX4_isPart_6 : decode cX4_isPart 6 = .ok (.ireturn, 1) := by decide +kernel
theorem dX4_areTimes_0 : decode cX4_areTimes 0 = .ok (.iconst 0, 1) := by decide +kernel
theorem dX4_areTimes_1 : decode cX4_areTimes 1 = .ok (.iload_n 0, 1) := by decide +kernel
theorem dX4_areTimes_2 : decode cX4_areTimes 2 = .ok (.if_icmp .gt 24, 3) := by decide +kernel
theorem dX4_areTimes_5 : decode cX4_areTimes 5 = .ok (.iload_n 0, 1) := by decide +kernel
theorem dX4_areTimes_6 : decode cX4_areTimes 6 = .ok (.iload_n 1, 1) := by decide +kernel
theorem dX4_areTimes_7 : decode cX4_areTimes 7 = .ok (.if_icmp .gt 19, 3) := by decide +kernel
theorem dX4_areTimes_10 : decode cX4_areTimes 10 = .ok (.iload_n 1, 1) := by decide +kernel
theorem dX4_areTimes_11 : decode cX4_areTimes 11 = .ok (.iload_n 2, 1) := by decide +kernel
theorem dX4_areTimes_12 : decode cX4_areTimes 12 = .ok (.if_icmp .gt 14, 3) := by decide +kernel
theorem dX4_areTimes_15 : decode cX4_areTimes 15 = .ok (.iload_n 2, 1) := by decide +kernel
theorem dX4_areTimes_16 : decode cX4_areTimes 16 = .ok (.sipush 1000, 3) := by decide +kernel
theorem dX4_areTimes_19 : decode cX4_areTimes 19 = .ok (.if_icmp .gt 7, 3) := by decide +kernel
theorem dX4_areTimes_22 : decode cX4_areTimes 22 = .ok (.iconst 1, 1) := by decide +kernel
theorem dX4_areTimes_23 : decode cX4_areTimes 23 = .ok (.goto 4, 3) := by decide +kernel
theorem dX4_areTimes_26 : decode cX4_areTimes 26 = .ok (.iconst 0, 1) := by decide +kernel
theorem dX4_areTimes_27 : decode cX4_areTimes 27 = .ok (.ireturn, 1) := by decide +kernel
theorem dX4_asNumber_0 : decode cX4_asNumber 0 = .ok (.iload_n 0, 1) := by decide +kernel
theorem dX4_asNumber_1 : decode cX4_asNumber 1 = .ok (.ifCond .eq 7, 3) := by decide +kernel
theorem dX4_asNumber_4 : decode cX4_asNumber 4 = .ok (.iconst 1, 1) := by decide +kernel
theorem dX4_asNumber_5 : decode cX4_asNumber 5 = .ok (.goto 4, 3) := by decide +kernel
theorem dX4_asNumber_8 : decode cX4_asNumber 8 = .ok (.iconst 0, 1) := by decide +kernel
theorem dX4_asNumber_9 : decode cX4_asNumber 9 = .ok (.ireturn, 1) := by decide +kernel
theorem dX4_conditionOf_0 : decode cX4_conditionOf 0 = .ok (.iload_n 0, 1) := by decide +kernel
theorem dX4_conditionOf_1 : decode cX4_conditionOf 1 = .ok (.bipush 11, 2) := by decide +kernel
theorem dX4_conditionOf_3 : decode cX4_conditionOf 3 = .ok (.imul, 1) := by decide +kernel
theorem dX4_conditionOf_4 : decode cX4_conditionOf 4 = .ok (.iload_n 1, 1) := by decide +kernel
theorem dX4_conditionOf_5 : decode cX4_conditionOf 5 = .ok (.iadd, 1) := by decide +kernel
theorem dX4_conditionOf_6 : decode cX4_conditionOf 6 = .ok (.ireturn, 1) := by decide +kernel
theorem dX4_columnOf_0 : decode cX4_columnOf 0 = .ok (.iload_n 0, 1) := by decide +kernel
theorem dX4_columnOf_1 : decode cX4_columnOf 1 = .ok (.iconst (-1), 1) := by decide +kernel
theorem dX4_columnOf_2 : decode cX4_columnOf 2 = .ok (.if_icmp .ne 7, 3) := by decide +kernel
theorem dX4_columnOf_5 : decode cX4_columnOf 5 = .ok (.iconst (-1), 1) := by decide +kernel
theorem dX4_columnOf_6 : decode cX4_columnOf 6 = .ok (.goto 7, 3) := by decide +kernel
theorem dX4_columnOf_9 : decode cX4_columnOf 9 = .ok (.iload_n 0, 1) := by decide +kernel
theorem dX4_columnOf_10 : decode cX4_columnOf 10 = .ok (.bipush 11, 2) := by decide +kernel
theorem dX4_columnOf_12 : decode cX4_columnOf 12 = .ok (.idiv, 1) := by decide +kernel
theorem dX4_columnOf_13 : decode cX4_columnOf 13 = .ok (.ireturn, 1) := by decide +kernel
theorem dX4_sortOf_0 : decode cX4_sortOf 0 = .ok (.iload_n 0, 1) := by decide +kernel
theorem dX4_sortOf_1 : decode cX4_sortOf 1 = .ok (.iconst (-1), 1) := by decide +kernel
theorem dX4_sortOf_2 : decode cX4_sortOf 2 = .ok (.if_icmp .ne 7, 3) := by decide +kernel
theorem dX4_sortOf_5 : decode cX4_sortOf 5 = .ok (.iconst (-1), 1) := by decide +kernel
theorem dX4_sortOf_6 : decode cX4_sortOf 6 = .ok (.goto 7, 3) := by decide +kernel
theorem dX4_sortOf_9 : decode cX4_sortOf 9 = .ok (.iload_n 0, 1) := by decide +kernel
theorem dX4_sortOf_10 : decode cX4_sortOf 10 = .ok (.bipush 11, 2) := by decide +kernel
theorem dX4_sortOf_12 : decode cX4_sortOf 12 = .ok (.irem, 1) := by decide +kernel
theorem dX4_sortOf_13 : decode cX4_sortOf 13 = .ok (.ireturn, 1) := by decide +kernel
theorem dX4_boundAbove_0 : decode cX4_boundAbove 0 = .ok (.iload_n 0, 1) := by decide +kernel
theorem dX4_boundAbove_1 : decode cX4_boundAbove 1 = .ok (.iconst 2, 1) := by decide +kernel
theorem dX4_boundAbove_2 : decode cX4_boundAbove 2 = .ok (.iadd, 1) := by decide +kernel
theorem dX4_boundAbove_3 : decode cX4_boundAbove 3 = .ok (.ireturn, 1) := by decide +kernel
theorem dX4_boundBelow_0 : decode cX4_boundBelow 0 = .ok (.iload_n 0, 1) := by decide +kernel
theorem dX4_boundBelow_1 : decode cX4_boundBelow 1 = .ok (.iconst 4, 1) := by decide +kernel
theorem dX4_boundBelow_2 : decode cX4_boundBelow 2 = .ok (.iadd, 1) := by decide +kernel
theorem dX4_boundBelow_3 : decode cX4_boundBelow 3 = .ok (.ireturn, 1) := by decide +kernel
set_option maxRecDepth 20000 in
theorem ggX4_driftBelow_J13_bitCount_95d88 : GoodIn wsX4_driftBelow wsJ13_bitCount_95d88 := goodIn_r _ [4, 5, 6, 7] (by decide +kernel) (by decide +kernel)
set_option maxRecDepth 20000 in
theorem gX4_driftBelow_J13_bitCount_95d88 : GoodIn wsX4_driftBelow (va_wsS RX4 102 yJ13_bitCount_95d88 wsJ13_bitCount_95d88) := goodIn_app (goodIn_of _ (by decide +kernel)) ggX4_driftBelow_J13_bitCount_95d88
theorem dX4_driftBelow_0 : decode cX4_driftBelow 0 = .ok (.iconst 2, 1) := by decide +kernel
theorem dX4_driftBelow_1 : decode cX4_driftBelow 1 = .ok (.lload_n 0, 1) := by decide +kernel
theorem dX4_driftBelow_2 : decode cX4_driftBelow 2 = .ok (.invokestatic 102, 3) := by decide +kernel
theorem dX4_driftBelow_5 : decode cX4_driftBelow 5 = .ok (.imul, 1) := by decide +kernel
theorem dX4_driftBelow_6 : decode cX4_driftBelow 6 = .ok (.lload_n 2, 1) := by decide +kernel
theorem dX4_driftBelow_7 : decode cX4_driftBelow 7 = .ok (.invokestatic 102, 3) := by decide +kernel
theorem dX4_driftBelow_10 : decode cX4_driftBelow 10 = .ok (.imul, 1) := by decide +kernel
theorem dX4_driftBelow_11 : decode cX4_driftBelow 11 = .ok (.ireturn, 1) := by decide +kernel
set_option maxRecDepth 20000 in
theorem ggX4_lowest_X4_commonDivisor : GoodIn wsX4_lowest wsX4_commonDivisor := goodIn_r _ [8, 9, 10, 3, 11] (by decide +kernel) (by decide +kernel)
set_option maxRecDepth 20000 in
theorem gX4_lowest_X4_commonDivisor : GoodIn wsX4_lowest (va_wsS RX4 222 yX4_commonDivisor wsX4_commonDivisor) := goodIn_app (goodIn_of _ (by decide +kernel)) ggX4_lowest_X4_commonDivisor
theorem dX4_lowest_0 : decode cX4_lowest 0 = .ok (.lload_n 0, 1) := by decide +kernel
theorem dX4_lowest_1 : decode cX4_lowest 1 = .ok (.invokestatic 216, 3) := by decide +kernel
theorem dX4_lowest_4 : decode cX4_lowest 4 = .ok (.lload_n 2, 1) := by decide +kernel
theorem dX4_lowest_5 : decode cX4_lowest 5 = .ok (.invokestatic 216, 3) := by decide +kernel
theorem dX4_lowest_8 : decode cX4_lowest 8 = .ok (.invokestatic 222, 3) := by decide +kernel
theorem dX4_lowest_11 : decode cX4_lowest 11 = .ok (.lstore 5, 2) := by decide +kernel
theorem dX4_lowest_13 : decode cX4_lowest 13 = .ok (.iload 4, 2) := by decide +kernel
theorem dX4_lowest_15 : decode cX4_lowest 15 = .ok (.iconst 1, 1) := by decide +kernel
theorem dX4_lowest_16 : decode cX4_lowest 16 = .ok (.if_icmp .ne 11, 3) := by decide +kernel
theorem dX4_lowest_19 : decode cX4_lowest 19 = .ok (.lload_n 2, 1) := by decide +kernel
theorem dX4_lowest_20 : decode cX4_lowest 20 = .ok (.invokestatic 216, 3) := by decide +kernel
theorem dX4_lowest_23 : decode cX4_lowest 23 = .ok (.lload 5, 2) := by decide +kernel
theorem dX4_lowest_25 : decode cX4_lowest 25 = .ok (.ldiv, 1) := by decide +kernel
theorem dX4_lowest_26 : decode cX4_lowest 26 = .ok (.lreturn, 1) := by decide +kernel
theorem dX4_lowest_27 : decode cX4_lowest 27 = .ok (.lload_n 2, 1) := by decide +kernel
theorem dX4_lowest_28 : decode cX4_lowest 28 = .ok (.lconst 0, 1) := by decide +kernel
theorem dX4_lowest_29 : decode cX4_lowest 29 = .ok (.lcmp, 1) := by decide +kernel
theorem dX4_lowest_30 : decode cX4_lowest 30 = .ok (.ifCond .ge 8, 3) := by decide +kernel
theorem dX4_lowest_33 : decode cX4_lowest 33 = .ok (.lload_n 0, 1) := by decide +kernel
theorem dX4_lowest_34 : decode cX4_lowest 34 = .ok (.lneg, 1) := by decide +kernel
theorem dX4_lowest_35 : decode cX4_lowest 35 = .ok (.goto 4, 3) := by decide +kernel
theorem dX4_lowest_38 : decode cX4_lowest 38 = .ok (.lload_n 0, 1) := by decide +kernel
theorem dX4_lowest_39 : decode cX4_lowest 39 = .ok (.lload 5, 2) := by decide +kernel
theorem dX4_lowest_41 : decode cX4_lowest 41 = .ok (.ldiv, 1) := by decide +kernel
theorem dX4_lowest_42 : decode cX4_lowest 42 = .ok (.lreturn, 1) := by decide +kernel
theorem dX4_commonDivisor_0 : decode cX4_commonDivisor 0 = .ok (.lload_n 0, 1) := by decide +kernel
theorem dX4_commonDivisor_1 : decode cX4_commonDivisor 1 = .ok (.lstore 4, 2) := by decide +kernel
theorem dX4_commonDivisor_3 : decode cX4_commonDivisor 3 = .ok (.lload_n 2, 1) := by decide +kernel
theorem dX4_commonDivisor_4 : decode cX4_commonDivisor 4 = .ok (.lstore 6, 2) := by decide +kernel
theorem dX4_commonDivisor_6 : decode cX4_commonDivisor 6 = .ok (.iconst 0, 1) := by decide +kernel
theorem dX4_commonDivisor_7 : decode cX4_commonDivisor 7 = .ok (.istore 8, 2) := by decide +kernel
theorem dX4_commonDivisor_9 : decode cX4_commonDivisor 9 = .ok (.iload 8, 2) := by decide +kernel
theorem dX4_commonDivisor_11 : decode cX4_commonDivisor 11 = .ok (.sipush 128, 3) := by decide +kernel
theorem dX4_commonDivisor_14 : decode cX4_commonDivisor 14 = .ok (.if_icmp .ge 31, 3) := by decide +kernel
theorem dX4_commonDivisor_17 : decode cX4_commonDivisor 17 = .ok (.lload 6, 2) := by decide +kernel
theorem dX4_commonDivisor_19 : decode cX4_commonDivisor 19 = .ok (.lconst 0, 1) := by decide +kernel
theorem dX4_commonDivisor_20 : decode cX4_commonDivisor 20 = .ok (.lcmp, 1) := by decide +kernel
theorem dX4_commonDivisor_21 : decode cX4_commonDivisor 21 = .ok (.ifCond .eq 24, 3) := by decide +kernel
theorem dX4_commonDivisor_24 : decode cX4_commonDivisor 24 = .ok (.lload 4, 2) := by decide +kernel
theorem dX4_commonDivisor_26 : decode cX4_commonDivisor 26 = .ok (.lload 6, 2) := by decide +kernel
theorem dX4_commonDivisor_28 : decode cX4_commonDivisor 28 = .ok (.lrem, 1) := by decide +kernel
theorem dX4_commonDivisor_29 : decode cX4_commonDivisor 29 = .ok (.lstore 9, 2) := by decide +kernel
theorem dX4_commonDivisor_31 : decode cX4_commonDivisor 31 = .ok (.lload 6, 2) := by decide +kernel
theorem dX4_commonDivisor_33 : decode cX4_commonDivisor 33 = .ok (.lstore 4, 2) := by decide +kernel
theorem dX4_commonDivisor_35 : decode cX4_commonDivisor 35 = .ok (.lload 9, 2) := by decide +kernel
theorem dX4_commonDivisor_37 : decode cX4_commonDivisor 37 = .ok (.lstore 6, 2) := by decide +kernel
theorem dX4_commonDivisor_39 : decode cX4_commonDivisor 39 = .ok (.iinc 8 1, 3) := by decide +kernel
theorem dX4_commonDivisor_42 : decode cX4_commonDivisor 42 = .ok (.goto (-33), 3) := by decide +kernel
theorem dX4_commonDivisor_45 : decode cX4_commonDivisor 45 = .ok (.lconst 1, 1) := by decide +kernel
theorem dX4_commonDivisor_46 : decode cX4_commonDivisor 46 = .ok (.lload 4, 2) := by decide +kernel
theorem dX4_commonDivisor_48 : decode cX4_commonDivisor 48 = .ok (.invokestatic 226, 3) := by decide +kernel
theorem dX4_commonDivisor_51 : decode cX4_commonDivisor 51 = .ok (.lreturn, 1) := by decide +kernel
theorem dX4_waysToChoose_0 : decode cX4_waysToChoose 0 = .ok (.iconst 1, 1) := by decide +kernel
theorem dX4_waysToChoose_1 : decode cX4_waysToChoose 1 = .ok (.istore_n 2, 1) := by decide +kernel
theorem dX4_waysToChoose_2 : decode cX4_waysToChoose 2 = .ok (.iconst 1, 1) := by decide +kernel
theorem dX4_waysToChoose_3 : decode cX4_waysToChoose 3 = .ok (.istore_n 3, 1) := by decide +kernel
theorem dX4_waysToChoose_4 : decode cX4_waysToChoose 4 = .ok (.iload_n 3, 1) := by decide +kernel
theorem dX4_waysToChoose_5 : decode cX4_waysToChoose 5 = .ok (.iload_n 1, 1) := by decide +kernel
theorem dX4_waysToChoose_6 : decode cX4_waysToChoose 6 = .ok (.if_icmp .gt 19, 3) := by decide +kernel
theorem dX4_waysToChoose_9 : decode cX4_waysToChoose 9 = .ok (.iload_n 2, 1) := by decide +kernel
theorem dX4_waysToChoose_10 : decode cX4_waysToChoose 10 = .ok (.iload_n 0, 1) := by decide +kernel
theorem dX4_waysToChoose_11 : decode cX4_waysToChoose 11 = .ok (.iload_n 1, 1) := by decide +kernel
theorem dX4_waysToChoose_12 : decode cX4_waysToChoose 12 = .ok (.isub, 1) := by decide +kernel
theorem dX4_waysToChoose_13 : decode cX4_waysToChoose 13 = .ok (.iload_n 3, 1) := by decide +kernel
theorem dX4_waysToChoose_14 : decode cX4_waysToChoose 14 = .ok (.iadd, 1) := by decide +kernel
theorem dX4_waysToChoose_15 : decode cX4_waysToChoose 15 = .ok (.imul, 1) := by decide +kernel
theorem dX4_waysToChoose_16 : decode cX4_waysToChoose 16 = .ok (.iload_n 3, 1) := by decide +kernel
theorem dX4_waysToChoose_17 : decode cX4_waysToChoose 17 = .ok (.idiv, 1) := by decide +kernel
theorem dX4_waysToChoose_18 : decode cX4_waysToChoose 18 = .ok (.istore_n 2, 1) := by decide +kernel
theorem dX4_waysToChoose_19 : decode cX4_waysToChoose 19 = .ok (.iinc 3 1, 3) := by decide +kernel
theorem dX4_waysToChoose_22 : decode cX4_waysToChoose 22 = .ok (.goto (-18), 3) := by decide +kernel
theorem dX4_waysToChoose_25 : decode cX4_waysToChoose 25 = .ok (.iload_n 2, 1) := by decide +kernel
theorem dX4_waysToChoose_26 : decode cX4_waysToChoose 26 = .ok (.ireturn, 1) := by decide +kernel
theorem dJ13_bitCount_95d88_0 : decode cJ13_bitCount_95d88 0 = .ok (.lload_n 0, 1) := by decide +kernel
theorem dJ13_bitCount_95d88_1 : decode cJ13_bitCount_95d88 1 = .ok (.lload_n 0, 1) := by decide +kernel
theorem dJ13_bitCount_95d88_2 : decode cJ13_bitCount_95d88 2 = .ok (.iconst 1, 1) := by decide +kernel
theorem dJ13_bitCount_95d88_3 : decode cJ13_bitCount_95d88 3 = .ok (.lushr, 1) := by decide +kernel
theorem dJ13_bitCount_95d88_4 : decode cJ13_bitCount_95d88 4 = .ok (.ldc2_w 314, 3) := by decide +kernel
theorem dJ13_bitCount_95d88_7 : decode cJ13_bitCount_95d88 7 = .ok (.land, 1) := by decide +kernel
theorem dJ13_bitCount_95d88_8 : decode cJ13_bitCount_95d88 8 = .ok (.lsub, 1) := by decide +kernel
theorem dJ13_bitCount_95d88_9 : decode cJ13_bitCount_95d88 9 = .ok (.lstore_n 0, 1) := by decide +kernel
theorem dJ13_bitCount_95d88_10 : decode cJ13_bitCount_95d88 10 = .ok (.lload_n 0, 1) := by decide +kernel
theorem dJ13_bitCount_95d88_11 : decode cJ13_bitCount_95d88 11 = .ok (.ldc2_w 316, 3) := by decide +kernel
theorem dJ13_bitCount_95d88_14 : decode cJ13_bitCount_95d88 14 = .ok (.land, 1) := by decide +kernel
theorem dJ13_bitCount_95d88_15 : decode cJ13_bitCount_95d88 15 = .ok (.lload_n 0, 1) := by decide +kernel
theorem dJ13_bitCount_95d88_16 : decode cJ13_bitCount_95d88 16 = .ok (.iconst 2, 1) := by decide +kernel
theorem dJ13_bitCount_95d88_17 : decode cJ13_bitCount_95d88 17 = .ok (.lushr, 1) := by decide +kernel
theorem dJ13_bitCount_95d88_18 : decode cJ13_bitCount_95d88 18 = .ok (.ldc2_w 316, 3) := by decide +kernel
theorem dJ13_bitCount_95d88_21 : decode cJ13_bitCount_95d88 21 = .ok (.land, 1) := by decide +kernel
theorem dJ13_bitCount_95d88_22 : decode cJ13_bitCount_95d88 22 = .ok (.ladd, 1) := by decide +kernel
theorem dJ13_bitCount_95d88_23 : decode cJ13_bitCount_95d88 23 = .ok (.lstore_n 0, 1) := by decide +kernel
theorem dJ13_bitCount_95d88_24 : decode cJ13_bitCount_95d88 24 = .ok (.lload_n 0, 1) := by decide +kernel
theorem dJ13_bitCount_95d88_25 : decode cJ13_bitCount_95d88 25 = .ok (.lload_n 0, 1) := by decide +kernel
theorem dJ13_bitCount_95d88_26 : decode cJ13_bitCount_95d88 26 = .ok (.iconst 4, 1) := by decide +kernel
theorem dJ13_bitCount_95d88_27 : decode cJ13_bitCount_95d88 27 = .ok (.lushr, 1) := by decide +kernel
theorem dJ13_bitCount_95d88_28 : decode cJ13_bitCount_95d88 28 = .ok (.ladd, 1) := by decide +kernel
theorem dJ13_bitCount_95d88_29 : decode cJ13_bitCount_95d88 29 = .ok (.ldc2_w 318, 3) := by decide +kernel
theorem dJ13_bitCount_95d88_32 : decode cJ13_bitCount_95d88 32 = .ok (.land, 1) := by decide +kernel
theorem dJ13_bitCount_95d88_33 : decode cJ13_bitCount_95d88 33 = .ok (.lstore_n 0, 1) := by decide +kernel
theorem dJ13_bitCount_95d88_34 : decode cJ13_bitCount_95d88 34 = .ok (.lload_n 0, 1) := by decide +kernel
theorem dJ13_bitCount_95d88_35 : decode cJ13_bitCount_95d88 35 = .ok (.lload_n 0, 1) := by decide +kernel
theorem dJ13_bitCount_95d88_36 : decode cJ13_bitCount_95d88 36 = .ok (.bipush 8, 2) := by decide +kernel
theorem dJ13_bitCount_95d88_38 : decode cJ13_bitCount_95d88 38 = .ok (.lushr, 1) := by decide +kernel
theorem dJ13_bitCount_95d88_39 : decode cJ13_bitCount_95d88 39 = .ok (.ladd, 1) := by decide +kernel
theorem dJ13_bitCount_95d88_40 : decode cJ13_bitCount_95d88 40 = .ok (.lstore_n 0, 1) := by decide +kernel
theorem dJ13_bitCount_95d88_41 : decode cJ13_bitCount_95d88 41 = .ok (.lload_n 0, 1) := by decide +kernel
theorem dJ13_bitCount_95d88_42 : decode cJ13_bitCount_95d88 42 = .ok (.lload_n 0, 1) := by decide +kernel
theorem dJ13_bitCount_95d88_43 : decode cJ13_bitCount_95d88 43 = .ok (.bipush 16, 2) := by decide +kernel
theorem dJ13_bitCount_95d88_45 : decode cJ13_bitCount_95d88 45 = .ok (.lushr, 1) := by decide +kernel
theorem dJ13_bitCount_95d88_46 : decode cJ13_bitCount_95d88 46 = .ok (.ladd, 1) := by decide +kernel
theorem dJ13_bitCount_95d88_47 : decode cJ13_bitCount_95d88 47 = .ok (.lstore_n 0, 1) := by decide +kernel
theorem dJ13_bitCount_95d88_48 : decode cJ13_bitCount_95d88 48 = .ok (.lload_n 0, 1) := by decide +kernel
theorem dJ13_bitCount_95d88_49 : decode cJ13_bitCount_95d88 49 = .ok (.lload_n 0, 1) := by decide +kernel
theorem dJ13_bitCount_95d88_50 : decode cJ13_bitCount_95d88 50 = .ok (.bipush 32, 2) := by decide +kernel
theorem dJ13_bitCount_95d88_52 : decode cJ13_bitCount_95d88 52 = .ok (.lushr, 1) := by decide +kernel
theorem dJ13_bitCount_95d88_53 : decode cJ13_bitCount_95d88 53 = .ok (.ladd, 1) := by decide +kernel
theorem dJ13_bitCount_95d88_54 : decode cJ13_bitCount_95d88 54 = .ok (.lstore_n 0, 1) := by decide +kernel
theorem dJ13_bitCount_95d88_55 : decode cJ13_bitCount_95d88 55 = .ok (.lload_n 0, 1) := by decide +kernel
theorem dJ13_bitCount_95d88_56 : decode cJ13_bitCount_95d88 56 = .ok (.l2i, 1) := by decide +kernel
theorem dJ13_bitCount_95d88_57 : decode cJ13_bitCount_95d88 57 = .ok (.bipush 127, 2) := by decide +kernel
theorem dJ13_bitCount_95d88_59 : decode cJ13_bitCount_95d88 59 = .ok (.iand, 1) := by decide +kernel
theorem dJ13_bitCount_95d88_60 : decode cJ13_bitCount_95d88 60 = .ok (.ireturn, 1) := by decide +kernel
theorem dJ9_abs_0f7a4_0 : decode cJ9_abs_0f7a4 0 = .ok (.iload_n 0, 1) := by decide +kernel
theorem dJ9_abs_0f7a4_1 : decode cJ9_abs_0f7a4 1 = .ok (.ifCond .ge 8, 3) := by decide +kernel
theorem dJ9_abs_0f7a4_4 : decode cJ9_abs_0f7a4 4 = .ok (.iload_n 0, 1) := by decide +kernel
theorem dJ9_abs_0f7a4_5 : decode cJ9_abs_0f7a4 5 = .ok (.ineg, 1) := by decide +kernel
theorem dJ9_abs_0f7a4_6 : decode cJ9_abs_0f7a4 6 = .ok (.goto 4, 3) := by decide +kernel
theorem dJ9_abs_0f7a4_9 : decode cJ9_abs_0f7a4 9 = .ok (.iload_n 0, 1) := by decide +kernel
theorem dJ9_abs_0f7a4_10 : decode cJ9_abs_0f7a4 10 = .ok (.ireturn, 1) := by decide +kernel
theorem dJ9_abs_067f4_0 : decode cJ9_abs_067f4 0 = .ok (.lload_n 0, 1) := by decide +kernel
theorem dJ9_abs_067f4_1 : decode cJ9_abs_067f4 1 = .ok (.lconst 0, 1) := by decide +kernel
theorem dJ9_abs_067f4_2 : decode cJ9_abs_067f4 2 = .ok (.lcmp, 1) := by decide +kernel
theorem dJ9_abs_067f4_3 : decode cJ9_abs_067f4 3 = .ok (.ifCond .ge 8, 3) := by decide +kernel
theorem dJ9_abs_067f4_6 : decode cJ9_abs_067f4 6 = .ok (.lload_n 0, 1) := by decide +kernel
theorem dJ9_abs_067f4_7 : decode cJ9_abs_067f4 7 = .ok (.lneg, 1) := by decide +kernel
theorem dJ9_abs_067f4_8 : decode cJ9_abs_067f4 8 = .ok (.goto 4, 3) := by decide +kernel
theorem dJ9_abs_067f4_11 : decode cJ9_abs_067f4 11 = .ok (.lload_n 0, 1) := by decide +kernel
theorem dJ9_abs_067f4_12 : decode cJ9_abs_067f4 12 = .ok (.lreturn, 1) := by decide +kernel
theorem dJ9_max_7cf53_0 : decode cJ9_max_7cf53 0 = .ok (.iload_n 0, 1) := by decide +kernel
theorem dJ9_max_7cf53_1 : decode cJ9_max_7cf53 1 = .ok (.iload_n 1, 1) := by decide +kernel
theorem dJ9_max_7cf53_2 : decode cJ9_max_7cf53 2 = .ok (.if_icmp .lt 7, 3) := by decide +kernel
theorem dJ9_max_7cf53_5 : decode cJ9_max_7cf53 5 = .ok (.iload_n 0, 1) := by decide +kernel
theorem dJ9_max_7cf53_6 : decode cJ9_max_7cf53 6 = .ok (.goto 4, 3) := by decide +kernel
theorem dJ9_max_7cf53_9 : decode cJ9_max_7cf53 9 = .ok (.iload_n 1, 1) := by decide +kernel
theorem dJ9_max_7cf53_10 : decode cJ9_max_7cf53 10 = .ok (.ireturn, 1) := by decide +kernel
theorem dJ9_max_f86c9_0 : decode cJ9_max_f86c9 0 = .ok (.lload_n 0, 1) := by decide +kernel
theorem dJ9_max_f86c9_1 : decode cJ9_max_f86c9 1 = .ok (.lload_n 2, 1) := by decide +kernel
theorem dJ9_max_f86c9_2 : decode cJ9_max_f86c9 2 = .ok (.lcmp, 1) := by decide +kernel
theorem dJ9_max_f86c9_3 : decode cJ9_max_f86c9 3 = .ok (.ifCond .lt 7, 3) := by decide +kernel
theorem dJ9_max_f86c9_6 : decode cJ9_max_f86c9 6 = .ok (.lload_n 0, 1) := by decide +kernel
theorem dJ9_max_f86c9_7 : decode cJ9_max_f86c9 7 = .ok (.goto 4, 3) := by decide +kernel
theorem dJ9_max_f86c9_10 : decode cJ9_max_f86c9 10 = .ok (.lload_n 2, 1) := by decide +kernel
theorem dJ9_max_f86c9_11 : decode cJ9_max_f86c9 11 = .ok (.lreturn, 1) := by decide +kernel
theorem dJ9_min_7cf53_0 : decode cJ9_min_7cf53 0 = .ok (.iload_n 0, 1) := by decide +kernel
theorem dJ9_min_7cf53_1 : decode cJ9_min_7cf53 1 = .ok (.iload_n 1, 1) := by decide +kernel
theorem dJ9_min_7cf53_2 : decode cJ9_min_7cf53 2 = .ok (.if_icmp .gt 7, 3) := by decide +kernel
theorem dJ9_min_7cf53_5 : decode cJ9_min_7cf53 5 = .ok (.iload_n 0, 1) := by decide +kernel
theorem dJ9_min_7cf53_6 : decode cJ9_min_7cf53 6 = .ok (.goto 4, 3) := by decide +kernel
theorem dJ9_min_7cf53_9 : decode cJ9_min_7cf53 9 = .ok (.iload_n 1, 1) := by decide +kernel
theorem dJ9_min_7cf53_10 : decode cJ9_min_7cf53 10 = .ok (.ireturn, 1) := by decide +kernel
theorem dJ7_fill_53178_0 : decode cJ7_fill_53178 0 = .ok (.iconst 0, 1) := by decide +kernel
theorem dJ7_fill_53178_1 : decode cJ7_fill_53178 1 = .ok (.istore_n 2, 1) := by decide +kernel
theorem dJ7_fill_53178_2 : decode cJ7_fill_53178 2 = .ok (.aload_n 0, 1) := by decide +kernel
theorem dJ7_fill_53178_3 : decode cJ7_fill_53178 3 = .ok (.arraylength, 1) := by decide +kernel
theorem dJ7_fill_53178_4 : decode cJ7_fill_53178 4 = .ok (.istore_n 3, 1) := by decide +kernel
theorem dJ7_fill_53178_5 : decode cJ7_fill_53178 5 = .ok (.iload_n 2, 1) := by decide +kernel
theorem dJ7_fill_53178_6 : decode cJ7_fill_53178 6 = .ok (.iload_n 3, 1) := by decide +kernel
theorem dJ7_fill_53178_7 : decode cJ7_fill_53178 7 = .ok (.if_icmp .ge 13, 3) := by decide +kernel
theorem dJ7_fill_53178_10 : decode cJ7_fill_53178 10 = .ok (.aload_n 0, 1) := by decide +kernel
theorem dJ7_fill_53178_11 : decode cJ7_fill_53178 11 = .ok (.iload_n 2, 1) := by decide +kernel
theorem dJ7_fill_53178_12 : decode cJ7_fill_53178 12 = .ok (.iload_n 1, 1) := by decide +kernel
theorem dJ7_fill_53178_13 : decode cJ7_fill_53178 13 = .ok (.iastore, 1) := by decide +kernel
theorem dJ7_fill_53178_14 : decode cJ7_fill_53178 14 = .ok (.iinc 2 1, 3) := by decide +kernel
theorem dJ7_fill_53178_17 : decode cJ7_fill_53178 17 = .ok (.goto (-12), 3) := by decide +kernel
theorem dJ7_fill_53178_20 : decode cJ7_fill_53178 20 = .ok (.return_, 1) := by decide +kernel
