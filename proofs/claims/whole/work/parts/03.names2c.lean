theorem dX5_shift_187 : decode cX5_shift 187 = .ok (.iload 20, 2) := by decide +kernel
theorem dX5_shift_189 : decode cX5_shift 189 = .ok (.i2l, 1) := by decide +kernel
theorem dX5_shift_190 : decode cX5_shift 190 = .ok (.goto 4, 3) := by decide +kernel
theorem dX5_shift_193 : decode cX5_shift 193 = .ok (.lconst 0, 1) := by decide +kernel
theorem dX5_shift_194 : decode cX5_shift 194 = .ok (.ladd, 1) := by decide +kernel
theorem dX5_shift_195 : decode cX5_shift 195 = .ok (.lstore 13, 2) := by decide +kernel
theorem dX5_shift_197 : decode cX5_shift 197 = .ok (.iload 20, 2) := by decide +kernel
theorem dX5_shift_199 : decode cX5_shift 199 = .ok (.iconst 2, 1) := by decide +kernel
theorem dX5_shift_200 : decode cX5_shift 200 = .ok (.if_icmp .ge 30, 3) := by decide +kernel
theorem dX5_shift_203 : decode cX5_shift 203 = .ok (.aload_n 0, 1) := by decide +kernel
theorem dX5_shift_204 : decode cX5_shift 204 = .ok (.iload 19, 2) := by decide +kernel
theorem dX5_shift_206 : decode cX5_shift 206 = .ok (.iload 4, 2) := by decide +kernel
theorem dX5_shift_208 : decode cX5_shift 208 = .ok (.iload 5, 2) := by decide +kernel
theorem dX5_shift_210 : decode cX5_shift 210 = .ok (.invokevirtual 127, 3) := by decide +kernel
theorem dX5_shift_213 : decode cX5_shift 213 = .ok (.ifCond .eq 17, 3) := by decide +kernel
theorem dX5_shift_216 : decode cX5_shift 216 = .ok (.lload 15, 2) := by decide +kernel
theorem dX5_shift_218 : decode cX5_shift 218 = .ok (.lconst 1, 1) := by decide +kernel
theorem dX5_shift_219 : decode cX5_shift 219 = .ok (.ladd, 1) := by decide +kernel
theorem dX5_shift_220 : decode cX5_shift 220 = .ok (.lstore 15, 2) := by decide +kernel
theorem dX5_shift_222 : decode cX5_shift 222 = .ok (.lload 17, 2) := by decide +kernel
theorem dX5_shift_224 : decode cX5_shift 224 = .ok (.iload 20, 2) := by decide +kernel
theorem dX5_shift_226 : decode cX5_shift 226 = .ok (.i2l, 1) := by decide +kernel
theorem dX5_shift_227 : decode cX5_shift 227 = .ok (.ladd, 1) := by decide +kernel
theorem dX5_shift_228 : decode cX5_shift 228 = .ok (.lstore 17, 2) := by decide +kernel
theorem dX5_shift_230 : decode cX5_shift 230 = .ok (.iinc 19 1, 3) := by decide +kernel
theorem dX5_shift_233 : decode cX5_shift 233 = .ok (.goto (-155), 3) := by decide +kernel
theorem dX5_shift_236 : decode cX5_shift 236 = .ok (.lload 7, 2) := by decide +kernel
theorem dX5_shift_238 : decode cX5_shift 238 = .ok (.lconst 0, 1) := by decide +kernel
theorem dX5_shift_239 : decode cX5_shift 239 = .ok (.lcmp, 1) := by decide +kernel
theorem dX5_shift_240 : decode cX5_shift 240 = .ok (.ifCond .eq 17, 3) := by decide +kernel
theorem dX5_shift_243 : decode cX5_shift 243 = .ok (.lload 11, 2) := by decide +kernel
theorem dX5_shift_245 : decode cX5_shift 245 = .ok (.lconst 0, 1) := by decide +kernel
theorem dX5_shift_246 : decode cX5_shift 246 = .ok (.lcmp, 1) := by decide +kernel
theorem dX5_shift_247 : decode cX5_shift 247 = .ok (.ifCond .eq 10, 3) := by decide +kernel
theorem dX5_shift_250 : decode cX5_shift 250 = .ok (.lload 15, 2) := by decide +kernel
theorem dX5_shift_252 : decode cX5_shift 252 = .ok (.lconst 0, 1) := by decide +kernel
theorem dX5_shift_253 : decode cX5_shift 253 = .ok (.lcmp, 1) := by decide +kernel
theorem dX5_shift_254 : decode cX5_shift 254 = .ok (.ifCond .ne 10, 3) := by decide +kernel
theorem dX5_shift_257 : decode cX5_shift 257 = .ok (.aload_n 0, 1) := by decide +kernel
theorem dX5_shift_258 : decode cX5_shift 258 = .ok (.iconst 1, 1) := by decide +kernel
theorem dX5_shift_259 : decode cX5_shift 259 = .ok (.putfield 75, 3) := by decide +kernel
theorem dX5_shift_262 : decode cX5_shift 262 = .ok (.lconst 0, 1) := by decide +kernel
theorem dX5_shift_263 : decode cX5_shift 263 = .ok (.lreturn, 1) := by decide +kernel
theorem dX5_shift_264 : decode cX5_shift 264 = .ok (.lload 13, 2) := by decide +kernel
theorem dX5_shift_266 : decode cX5_shift 266 = .ok (.lload 7, 2) := by decide +kernel
theorem dX5_shift_268 : decode cX5_shift 268 = .ok (.lmul, 1) := by decide +kernel
theorem dX5_shift_269 : decode cX5_shift 269 = .ok (.lload 9, 2) := by decide +kernel
theorem dX5_shift_271 : decode cX5_shift 271 = .ok (.lload 11, 2) := by decide +kernel
theorem dX5_shift_273 : decode cX5_shift 273 = .ok (.lmul, 1) := by decide +kernel
theorem dX5_shift_274 : decode cX5_shift 274 = .ok (.lsub, 1) := by decide +kernel
theorem dX5_shift_275 : decode cX5_shift 275 = .ok (.lload 15, 2) := by decide +kernel
theorem dX5_shift_277 : decode cX5_shift 277 = .ok (.lmul, 1) := by decide +kernel
theorem dX5_shift_278 : decode cX5_shift 278 = .ok (.lstore 19, 2) := by decide +kernel
theorem dX5_shift_280 : decode cX5_shift 280 = .ok (.lload 17, 2) := by decide +kernel
theorem dX5_shift_282 : decode cX5_shift 282 = .ok (.lload 7, 2) := by decide +kernel
theorem dX5_shift_284 : decode cX5_shift 284 = .ok (.lmul, 1) := by decide +kernel
theorem dX5_shift_285 : decode cX5_shift 285 = .ok (.lload 9, 2) := by decide +kernel
theorem dX5_shift_287 : decode cX5_shift 287 = .ok (.lload 15, 2) := by decide +kernel
theorem dX5_shift_289 : decode cX5_shift 289 = .ok (.lmul, 1) := by decide +kernel
theorem dX5_shift_290 : decode cX5_shift 290 = .ok (.lsub, 1) := by decide +kernel
theorem dX5_shift_291 : decode cX5_shift 291 = .ok (.lload 11, 2) := by decide +kernel
theorem dX5_shift_293 : decode cX5_shift 293 = .ok (.lmul, 1) := by decide +kernel
theorem dX5_shift_294 : decode cX5_shift 294 = .ok (.lstore 21, 2) := by decide +kernel
theorem dX5_shift_296 : decode cX5_shift 296 = .ok (.lload 19, 2) := by decide +kernel
theorem dX5_shift_298 : decode cX5_shift 298 = .ok (.lconst 0, 1) := by decide +kernel
theorem dX5_shift_299 : decode cX5_shift 299 = .ok (.lcmp, 1) := by decide +kernel
theorem dX5_shift_300 : decode cX5_shift 300 = .ok (.ifCond .ne 7, 3) := by decide +kernel
theorem dX5_shift_303 : decode cX5_shift 303 = .ok (.ldc2_w 160, 3) := by decide +kernel
theorem dX5_shift_306 : decode cX5_shift 306 = .ok (.lreturn, 1) := by decide +kernel
theorem dX5_shift_307 : decode cX5_shift 307 = .ok (.lload 19, 2) := by decide +kernel
theorem dX5_shift_309 : decode cX5_shift 309 = .ok (.lconst 0, 1) := by decide +kernel
theorem dX5_shift_310 : decode cX5_shift 310 = .ok (.lcmp, 1) := by decide +kernel
theorem dX5_shift_311 : decode cX5_shift 311 = .ok (.ifCond .ge 17, 3) := by decide +kernel
theorem dX5_shift_314 : decode cX5_shift 314 = .ok (.lload 21, 2) := by decide +kernel
theorem dX5_shift_316 : decode cX5_shift 316 = .ok (.lneg, 1) := by decide +kernel
theorem dX5_shift_317 : decode cX5_shift 317 = .ok (.lload 19, 2) := by decide +kernel
theorem dX5_shift_319 : decode cX5_shift 319 = .ok (.lneg, 1) := by decide +kernel
theorem dX5_shift_320 : decode cX5_shift 320 = .ok (.iload 6, 2) := by decide +kernel
theorem dX5_shift_322 : decode cX5_shift 322 = .ok (.invokestatic 119, 3) := by decide +kernel
theorem dX5_shift_325 : decode cX5_shift 325 = .ok (.goto 12, 3) := by decide +kernel
theorem dX5_shift_328 : decode cX5_shift 328 = .ok (.lload 21, 2) := by decide +kernel
theorem dX5_shift_330 : decode cX5_shift 330 = .ok (.lload 19, 2) := by decide +kernel
theorem dX5_shift_332 : decode cX5_shift 332 = .ok (.iload 6, 2) := by decide +kernel
theorem dX5_shift_334 : decode cX5_shift 334 = .ok (.invokestatic 119, 3) := by decide +kernel
theorem dX5_shift_337 : decode cX5_shift 337 = .ok (.lreturn, 1) := by decide +kernel
set_option maxRecDepth 20000 in
theorem ggX5_order_X5_in : GoodIn wsX5_order wsX5_in := goodIn_r _ [10] (by decide +kernel) (by decide +kernel)
set_option maxRecDepth 20000 in
theorem gX5_order_X5_in : GoodIn wsX5_order (va_wsS RX5 79 yX5_in wsX5_in) := goodIn_app (goodIn_of _ (by decide +kernel)) ggX5_order_X5_in
set_option maxRecDepth 20000 in
theorem ggX5_order_X5_areWindows : GoodIn wsX5_order wsX5_areWindows := goodIn_r _ [13, 14, 15, 9, 16] (by decide +kernel) (by decide +kernel)
set_option maxRecDepth 20000 in
theorem gX5_order_X5_areWindows : GoodIn wsX5_order (va_wsS RX5 145 yX5_areWindows wsX5_areWindows) := goodIn_app (goodIn_of _ (by decide +kernel)) ggX5_order_X5_areWindows
set_option maxRecDepth 20000 in
theorem ggX5_order_X5_counts : GoodIn wsX5_order wsX5_counts := goodIn_r _ [20, 21, 22, 23, 24, 25, 26, 27, 28, 29, 9, 30, 31, 38, 39, 40, 41, 42, 43, 44, 45, 46, 47, 48, 49, 50, 51, 52, 53, 54, 55, 56, 57, 58, 59, 60, 61, 62, 63, 64, 65, 66, 67] (by decide +kernel) (by decide +kernel)
set_option maxRecDepth 20000 in
theorem gX5_order_X5_counts : GoodIn wsX5_order (wsV RX5 148 RX5 yX5_counts wsX5_counts) := goodIn_app (goodIn_of _ (by decide +kernel)) ggX5_order_X5_counts
set_option maxRecDepth 20000 in
theorem ggX5_order_X5_drifts : GoodIn wsX5_order wsX5_drifts := goodIn_r _ [35, 21, 22, 5, 23, 24, 36, 37, 38, 39, 40, 41, 42, 43, 44, 45, 46, 47, 48, 49, 50, 51, 52, 53, 54, 55, 56, 57, 58, 59, 60, 61, 62, 63, 64, 65, 66, 67] (by decide +kernel) (by decide +kernel)
set_option maxRecDepth 20000 in
theorem gX5_order_X5_drifts : GoodIn wsX5_order (wsV RX5 152 RX5 yX5_drifts wsX5_drifts) := goodIn_app (goodIn_of _ (by decide +kernel)) ggX5_order_X5_drifts
theorem dX5_order_0 : decode cX5_order 0 = .ok (.aload_n 0, 1) := by decide +kernel
theorem dX5_order_1 : decode cX5_order 1 = .ok (.iconst 0, 1) := by decide +kernel
theorem dX5_order_2 : decode cX5_order 2 = .ok (.putfield 75, 3) := by decide +kernel
theorem dX5_order_5 : decode cX5_order 5 = .ok (.iload 4, 2) := by decide +kernel
theorem dX5_order_7 : decode cX5_order 7 = .ok (.iconst 0, 1) := by decide +kernel
theorem dX5_order_8 : decode cX5_order 8 = .ok (.iconst 4, 1) := by decide +kernel
theorem dX5_order_9 : decode cX5_order 9 = .ok (.invokestatic 79, 3) := by decide +kernel
theorem dX5_order_12 : decode cX5_order 12 = .ok (.ifCond .ne 6, 3) := by decide +kernel
theorem dX5_order_15 : decode cX5_order 15 = .ok (.ldc 88, 2) := by decide +kernel
theorem dX5_order_17 : decode cX5_order 17 = .ok (.ireturn, 1) := by decide +kernel
theorem dX5_order_18 : decode cX5_order 18 = .ok (.iload_n 1, 1) := by decide +kernel
theorem dX5_order_19 : decode cX5_order 19 = .ok (.iload_n 2, 1) := by decide +kernel
theorem dX5_order_20 : decode cX5_order 20 = .ok (.iload_n 3, 1) := by decide +kernel
theorem dX5_order_21 : decode cX5_order 21 = .ok (.invokestatic 145, 3) := by decide +kernel
theorem dX5_order_24 : decode cX5_order 24 = .ok (.ifCond .ne 6, 3) := by decide +kernel
theorem dX5_order_27 : decode cX5_order 27 = .ok (.ldc 83, 2) := by decide +kernel
theorem dX5_order_29 : decode cX5_order 29 = .ok (.ireturn, 1) := by decide +kernel
theorem dX5_order_30 : decode cX5_order 30 = .ok (.iconst 0, 1) := by decide +kernel
theorem dX5_order_31 : decode cX5_order 31 = .ok (.istore 5, 2) := by decide +kernel
theorem dX5_order_33 : decode cX5_order 33 = .ok (.iload 5, 2) := by decide +kernel
theorem dX5_order_35 : decode cX5_order 35 = .ok (.iconst 5, 1) := by decide +kernel
theorem dX5_order_36 : decode cX5_order 36 = .ok (.if_icmp .ge 106, 3) := by decide +kernel
theorem dX5_order_39 : decode cX5_order 39 = .ok (.aload_n 0, 1) := by decide +kernel
theorem dX5_order_40 : decode cX5_order 40 = .ok (.iload 5, 2) := by decide +kernel
theorem dX5_order_42 : decode cX5_order 42 = .ok (.iload_n 1, 1) := by decide +kernel
theorem dX5_order_43 : decode cX5_order 43 = .ok (.iload_n 2, 1) := by decide +kernel
theorem dX5_order_44 : decode cX5_order 44 = .ok (.iload_n 2, 1) := by decide +kernel
theorem dX5_order_45 : decode cX5_order 45 = .ok (.iload_n 3, 1) := by decide +kernel
theorem dX5_order_46 : decode cX5_order 46 = .ok (.invokevirtual 148, 3) := by decide +kernel
theorem dX5_order_49 : decode cX5_order 49 = .ok (.aload_n 0, 1) := by decide +kernel
theorem dX5_order_50 : decode cX5_order 50 = .ok (.invokevirtual 152, 3) := by decide +kernel
theorem dX5_order_53 : decode cX5_order 53 = .ok (.ifCond .ne 10, 3) := by decide +kernel
theorem dX5_order_56 : decode cX5_order 56 = .ok (.aload_n 0, 1) := by decide +kernel
theorem dX5_order_57 : decode cX5_order 57 = .ok (.iconst 1, 1) := by decide +kernel
theorem dX5_order_58 : decode cX5_order 58 = .ok (.putfield 75, 3) := by decide +kernel
theorem dX5_order_61 : decode cX5_order 61 = .ok (.iconst 0, 1) := by decide +kernel
theorem dX5_order_62 : decode cX5_order 62 = .ok (.ireturn, 1) := by decide +kernel
theorem dX5_order_63 : decode cX5_order 63 = .ok (.aload_n 0, 1) := by decide +kernel
theorem dX5_order_64 : decode cX5_order 64 = .ok (.getfield 57, 3) := by decide +kernel
theorem dX5_order_67 : decode cX5_order 67 = .ok (.iload 5, 2) := by decide +kernel
theorem dX5_order_69 : decode cX5_order 69 = .ok (.aload_n 0, 1) := by decide +kernel
theorem dX5_order_70 : decode cX5_order 70 = .ok (.getfield 136, 3) := by decide +kernel
theorem dX5_order_73 : decode cX5_order 73 = .ok (.lastore, 1) := by decide +kernel
theorem dX5_order_74 : decode cX5_order 74 = .ok (.iload 5, 2) := by decide +kernel
theorem dX5_order_76 : decode cX5_order 76 = .ok (.istore 6, 2) := by decide +kernel
theorem dX5_order_78 : decode cX5_order 78 = .ok (.iload 6, 2) := by decide +kernel
theorem dX5_order_80 : decode cX5_order 80 = .ok (.ifCond .le 47, 3) := by decide +kernel
theorem dX5_order_83 : decode cX5_order 83 = .ok (.aload_n 0, 1) := by decide +kernel
theorem dX5_order_84 : decode cX5_order 84 = .ok (.getfield 57, 3) := by decide +kernel
theorem dX5_order_87 : decode cX5_order 87 = .ok (.aload_n 0, 1) := by decide +kernel
theorem dX5_order_88 : decode cX5_order 88 = .ok (.getfield 60, 3) := by decide +kernel
theorem dX5_order_91 : decode cX5_order 91 = .ok (.iload 6, 2) := by decide +kernel
theorem dX5_order_93 : decode cX5_order 93 = .ok (.iconst 1, 1) := by decide +kernel
theorem dX5_order_94 : decode cX5_order 94 = .ok (.isub, 1) := by decide +kernel
theorem dX5_order_95 : decode cX5_order 95 = .ok (.iaload, 1) := by decide +kernel
theorem dX5_order_96 : decode cX5_order 96 = .ok (.laload, 1) := by decide +kernel
theorem dX5_order_97 : decode cX5_order 97 = .ok (.aload_n 0, 1) := by decide +kernel
theorem dX5_order_98 : decode cX5_order 98 = .ok (.getfield 136, 3) := by decide +kernel
theorem dX5_order_101 : decode cX5_order 101 = .ok (.lcmp, 1) := by decide +kernel
theorem dX5_order_102 : decode cX5_order 102 = .ok (.ifCond .ge 25, 3) := by decide +kernel
theorem dX5_order_105 : decode cX5_order 105 = .ok (.aload_n 0, 1) := by decide +kernel
theorem dX5_order_106 : decode cX5_order 106 = .ok (.getfield 60, 3) := by decide +kernel
theorem dX5_order_109 : decode cX5_order 109 = .ok (.iload 6, 2) := by decide +kernel
theorem dX5_order_111 : decode cX5_order 111 = .ok (.aload_n 0, 1) := by decide +kernel
theorem dX5_order_112 : decode cX5_order 112 = .ok (.getfield 60, 3) := by decide +kernel
theorem dX5_order_115 : decode cX5_order 115 = .ok (.iload 6, 2) := by decide +kernel
theorem dX5_order_117 : decode cX5_order 117 = .ok (.iconst 1, 1) := by decide +kernel
theorem dX5_order_118 : decode cX5_order 118 = .ok (.isub, 1) := by decide +kernel
theorem dX5_order_119 : decode cX5_order 119 = .ok (.iaload, 1) := by decide +kernel
theorem dX5_order_120 : decode cX5_order 120 = .ok (.iastore, 1) := by decide +kernel
theorem dX5_order_121 : decode cX5_order 121 = .ok (.iinc 6 (-1), 3) := by decide +kernel
theorem dX5_order_124 : decode cX5_order 124 = .ok (.goto (-46), 3) := by decide +kernel
theorem dX5_order_127 : decode cX5_order 127 = .ok (.aload_n 0, 1) := by decide +kernel
theorem dX5_order_128 : decode cX5_order 128 = .ok (.getfield 60, 3) := by decide +kernel
theorem dX5_order_131 : decode cX5_order 131 = .ok (.iload 6, 2) := by decide +kernel
theorem dX5_order_133 : decode cX5_order 133 = .ok (.iload 5, 2) := by decide +kernel
theorem dX5_order_135 : decode cX5_order 135 = .ok (.iastore, 1) := by decide +kernel
theorem dX5_order_136 : decode cX5_order 136 = .ok (.iinc 5 1, 3) := by decide +kernel
theorem dX5_order_139 : decode cX5_order 139 = .ok (.goto (-106), 3) := by decide +kernel
theorem dX5_order_142 : decode cX5_order 142 = .ok (.aload_n 0, 1) := by decide +kernel
theorem dX5_order_143 : decode cX5_order 143 = .ok (.getfield 60, 3) := by decide +kernel
theorem dX5_order_146 : decode cX5_order 146 = .ok (.iload 4, 2) := by decide +kernel
theorem dX5_order_148 : decode cX5_order 148 = .ok (.iaload, 1) := by decide +kernel
theorem dX5_order_149 : decode cX5_order 149 = .ok (.ireturn, 1) := by decide +kernel
set_option maxRecDepth 20000 in
theorem ggX5_watch_X5_in : GoodIn wsX5_watch wsX5_in := goodIn_r _ [19] (by decide +kernel) (by decide +kernel)
set_option maxRecDepth 20000 in
theorem gX5_watch_X5_in : GoodIn wsX5_watch (va_wsS RX5 79 yX5_in wsX5_in) := goodIn_app (goodIn_of _ (by decide +kernel)) ggX5_watch_X5_in
set_option maxRecDepth 20000 in
theorem ggX5_watch_X5_counts : GoodIn wsX5_watch wsX5_counts := goodIn_r _ [23, 4, 14, 24, 25, 26, 27, 28, 29, 30, 18, 31, 32, 38, 39, 40, 41, 42, 43, 44, 45, 46, 47, 48, 49, 50, 51, 52, 53, 54, 55, 56, 57, 58, 59, 60, 61, 62, 63, 64, 65, 66, 67] (by decide +kernel) (by decide +kernel)
set_option maxRecDepth 20000 in
theorem gX5_watch_X5_counts : GoodIn wsX5_watch (wsV RX5 148 RX5 yX5_counts wsX5_counts) := goodIn_app (goodIn_of _ (by decide +kernel)) ggX5_watch_X5_counts
set_option maxRecDepth 20000 in
theorem ggX5_watch_X5_drifts : GoodIn wsX5_watch wsX5_drifts := goodIn_r _ [36, 4, 14, 9, 24, 25, 37, 10, 38, 39, 40, 41, 42, 43, 44, 45, 46, 47, 48, 49, 50, 51, 52, 53, 54, 55, 56, 57, 58, 59, 60, 61, 62, 63, 64, 65, 66, 67] (by decide +kernel) (by decide +kernel)
set_option maxRecDepth 20000 in
theorem gX5_watch_X5_drifts : GoodIn wsX5_watch (wsV RX5 152 RX5 yX5_drifts wsX5_drifts) := goodIn_app (goodIn_of _ (by decide +kernel)) ggX5_watch_X5_drifts
theorem dX5_watch_0 : decode cX5_watch 0 = .ok (.aload_n 0, 1) := by decide +kernel
theorem dX5_watch_1 : decode cX5_watch 1 = .ok (.iconst 0, 1) := by decide +kernel
theorem dX5_watch_2 : decode cX5_watch 2 = .ok (.putfield 75, 3) := by decide +kernel
theorem dX5_watch_5 : decode cX5_watch 5 = .ok (.iload_n 1, 1) := by decide +kernel
theorem dX5_watch_6 : decode cX5_watch 6 = .ok (.iconst 0, 1) := by decide +kernel
theorem dX5_watch_7 : decode cX5_watch 7 = .ok (.iconst 4, 1) := by decide +kernel
theorem dX5_watch_8 : decode cX5_watch 8 = .ok (.invokestatic 79, 3) := by decide +kernel
theorem dX5_watch_11 : decode cX5_watch 11 = .ok (.ifCond .ne 6, 3) := by decide +kernel
theorem dX5_watch_14 : decode cX5_watch 14 = .ok (.ldc 88, 2) := by decide +kernel
theorem dX5_watch_16 : decode cX5_watch 16 = .ok (.ireturn, 1) := by decide +kernel
theorem dX5_watch_17 : decode cX5_watch 17 = .ok (.iload_n 2, 1) := by decide +kernel
theorem dX5_watch_18 : decode cX5_watch 18 = .ok (.iconst 1, 1) := by decide +kernel
theorem dX5_watch_19 : decode cX5_watch 19 = .ok (.sipush 999, 3) := by decide +kernel
theorem dX5_watch_22 : decode cX5_watch 22 = .ok (.invokestatic 79, 3) := by decide +kernel
theorem dX5_watch_25 : decode cX5_watch 25 = .ok (.ifCond .eq 37, 3) := by decide +kernel
theorem dX5_watch_28 : decode cX5_watch 28 = .ok (.iload_n 3, 1) := by decide +kernel
theorem dX5_watch_29 : decode cX5_watch 29 = .ok (.iconst 1, 1) := by decide +kernel
theorem dX5_watch_30 : decode cX5_watch 30 = .ok (.sipush 999, 3) := by decide +kernel
theorem dX5_watch_33 : decode cX5_watch 33 = .ok (.invokestatic 79, 3) := by decide +kernel
theorem dX5_watch_36 : decode cX5_watch 36 = .ok (.ifCond .eq 26, 3) := by decide +kernel
theorem dX5_watch_39 : decode cX5_watch 39 = .ok (.iload 4, 2) := by decide +kernel
theorem dX5_watch_41 : decode cX5_watch 41 = .ok (.iconst 1, 1) := by decide +kernel
theorem dX5_watch_42 : decode cX5_watch 42 = .ok (.bipush 100, 2) := by decide +kernel
theorem dX5_watch_44 : decode cX5_watch 44 = .ok (.invokestatic 79, 3) := by decide +kernel
theorem dX5_watch_47 : decode cX5_watch 47 = .ok (.ifCond .eq 15, 3) := by decide +kernel
theorem dX5_watch_50 : decode cX5_watch 50 = .ok (.iload 5, 2) := by decide +kernel
theorem dX5_watch_52 : decode cX5_watch 52 = .ok (.iconst 1, 1) := by decide +kernel
theorem dX5_watch_53 : decode cX5_watch 53 = .ok (.sipush 1000, 3) := by decide +kernel
theorem dX5_watch_56 : decode cX5_watch 56 = .ok (.invokestatic 79, 3) := by decide +kernel
theorem dX5_watch_59 : decode cX5_watch 59 = .ok (.ifCond .ne 6, 3) := by decide +kernel
theorem dX5_watch_62 : decode cX5_watch 62 = .ok (.ldc 83, 2) := by decide +kernel
theorem dX5_watch_64 : decode cX5_watch 64 = .ok (.ireturn, 1) := by decide +kernel
theorem dX5_watch_65 : decode cX5_watch 65 = .ok (.aload_n 0, 1) := by decide +kernel
theorem dX5_watch_66 : decode cX5_watch 66 = .ok (.iload_n 1, 1) := by decide +kernel
theorem dX5_watch_67 : decode cX5_watch 67 = .ok (.iconst 0, 1) := by decide +kernel
theorem dX5_watch_68 : decode cX5_watch 68 = .ok (.iload_n 2, 1) := by decide +kernel
theorem dX5_watch_69 : decode cX5_watch 69 = .ok (.iload_n 2, 1) := by decide +kernel
theorem dX5_watch_70 : decode cX5_watch 70 = .ok (.iload_n 2, 1) := by decide +kernel
theorem dX5_watch_71 : decode cX5_watch 71 = .ok (.invokevirtual 148, 3) := by decide +kernel
theorem dX5_watch_74 : decode cX5_watch 74 = .ok (.aload_n 0, 1) := by decide +kernel
theorem dX5_watch_75 : decode cX5_watch 75 = .ok (.getfield 130, 3) := by decide +kernel
theorem dX5_watch_78 : decode cX5_watch 78 = .ok (.ifCond .ne 6, 3) := by decide +kernel
theorem dX5_watch_81 : decode cX5_watch 81 = .ok (.ldc 165, 2) := by decide +kernel
theorem dX5_watch_83 : decode cX5_watch 83 = .ok (.ireturn, 1) := by decide +kernel
theorem dX5_watch_84 : decode cX5_watch 84 = .ok (.aload_n 0, 1) := by decide +kernel
theorem dX5_watch_85 : decode cX5_watch 85 = .ok (.iconst 0, 1) := by decide +kernel
theorem dX5_watch_86 : decode cX5_watch 86 = .ok (.putfield 166, 3) := by decide +kernel
theorem dX5_watch_89 : decode cX5_watch 89 = .ok (.aload_n 0, 1) := by decide +kernel
theorem dX5_watch_90 : decode cX5_watch 90 = .ok (.iconst 0, 1) := by decide +kernel
theorem dX5_watch_91 : decode cX5_watch 91 = .ok (.putfield 169, 3) := by decide +kernel
theorem dX5_watch_94 : decode cX5_watch 94 = .ok (.iconst 0, 1) := by decide +kernel
theorem dX5_watch_95 : decode cX5_watch 95 = .ok (.istore 6, 2) := by decide +kernel
theorem dX5_watch_97 : decode cX5_watch 97 = .ok (.iconst 0, 1) := by decide +kernel
theorem dX5_watch_98 : decode cX5_watch 98 = .ok (.istore 7, 2) := by decide +kernel
theorem dX5_watch_100 : decode cX5_watch 100 = .ok (.iconst 0, 1) := by decide +kernel
theorem dX5_watch_101 : decode cX5_watch 101 = .ok (.istore 8, 2) := by decide +kernel
theorem dX5_watch_103 : decode cX5_watch 103 = .ok (.iload_n 2, 1) := by decide +kernel
theorem dX5_watch_104 : decode cX5_watch 104 = .ok (.istore 9, 2) := by decide +kernel
theorem dX5_watch_106 : decode cX5_watch 106 = .ok (.iload 9, 2) := by decide +kernel
theorem dX5_watch_108 : decode cX5_watch 108 = .ok (.sipush 1000, 3) := by decide +kernel
theorem dX5_watch_111 : decode cX5_watch 111 = .ok (.if_icmp .ge 223, 3) := by decide +kernel
theorem dX5_watch_114 : decode cX5_watch 114 = .ok (.aload_n 0, 1) := by decide +kernel
theorem dX5_watch_115 : decode cX5_watch 115 = .ok (.getfield 166, 3) := by decide +kernel
theorem dX5_watch_118 : decode cX5_watch 118 = .ok (.bipush 100, 2) := by decide +kernel
theorem dX5_watch_120 : decode cX5_watch 120 = .ok (.if_icmp .ge 214, 3) := by decide +kernel
theorem dX5_watch_123 : decode cX5_watch 123 = .ok (.iload 9, 2) := by decide +kernel
theorem dX5_watch_125 : decode cX5_watch 125 = .ok (.iload_n 3, 1) := by decide +kernel
theorem dX5_watch_126 : decode cX5_watch 126 = .ok (.iadd, 1) := by decide +kernel
theorem dX5_watch_127 : decode cX5_watch 127 = .ok (.sipush 1000, 3) := by decide +kernel
theorem dX5_watch_130 : decode cX5_watch 130 = .ok (.if_icmp .le 9, 3) := by decide +kernel
theorem dX5_watch_133 : decode cX5_watch 133 = .ok (.sipush 1000, 3) := by decide +kernel
theorem dX5_watch_136 : decode cX5_watch 136 = .ok (.goto 7, 3) := by decide +kernel
theorem dX5_watch_139 : decode cX5_watch 139 = .ok (.iload 9, 2) := by decide +kernel
theorem dX5_watch_141 : decode cX5_watch 141 = .ok (.iload_n 3, 1) := by decide +kernel
theorem dX5_watch_142 : decode cX5_watch 142 = .ok (.iadd, 1) := by decide +kernel
theorem dX5_watch_143 : decode cX5_watch 143 = .ok (.istore 10, 2) := by decide +kernel
theorem dX5_watch_145 : decode cX5_watch 145 = .ok (.aload_n 0, 1) := by decide +kernel
theorem dX5_watch_146 : decode cX5_watch 146 = .ok (.iload_n 1, 1) := by decide +kernel
theorem dX5_watch_147 : decode cX5_watch 147 = .ok (.iconst 0, 1) := by decide +kernel
theorem dX5_watch_148 : decode cX5_watch 148 = .ok (.iload_n 2, 1) := by decide +kernel
theorem dX5_watch_149 : decode cX5_watch 149 = .ok (.iload 9, 2) := by decide +kernel
theorem dX5_watch_151 : decode cX5_watch 151 = .ok (.iload 10, 2) := by decide +kernel
theorem dX5_watch_153 : decode cX5_watch 153 = .ok (.invokevirtual 148, 3) := by decide +kernel
theorem dX5_watch_156 : decode cX5_watch 156 = .ok (.aload_n 0, 1) := by decide +kernel
theorem dX5_watch_157 : decode cX5_watch 157 = .ok (.invokevirtual 152, 3) := by decide +kernel
theorem dX5_watch_160 : decode cX5_watch 160 = .ok (.istore 11, 2) := by decide +kernel
theorem dX5_watch_162 : decode cX5_watch 162 = .ok (.iload 11, 2) := by decide +kernel
theorem dX5_watch_164 : decode cX5_watch 164 = .ok (.ifCond .eq 27, 3) := by decide +kernel
theorem dX5_watch_167 : decode cX5_watch 167 = .ok (.ldc2_w 172, 3) := by decide +kernel
theorem dX5_watch_170 : decode cX5_watch 170 = .ok (.aload_n 0, 1) := by decide +kernel
theorem dX5_watch_171 : decode cX5_watch 171 = .ok (.getfield 136, 3) := by decide +kernel
theorem dX5_watch_174 : decode cX5_watch 174 = .ok (.lmul, 1) := by decide +kernel
theorem dX5_watch_175 : decode cX5_watch 175 = .ok (.iload 5, 2) := by decide +kernel
theorem dX5_watch_177 : decode cX5_watch 177 = .ok (.i2l, 1) := by decide +kernel
theorem dX5_watch_178 : decode cX5_watch 178 = .ok (.aload_n 0, 1) := by decide +kernel
theorem dX5_watch_179 : decode cX5_watch 179 = .ok (.getfield 142, 3) := by decide +kernel
theorem dX5_watch_182 : decode cX5_watch 182 = .ok (.lmul, 1) := by decide +kernel
theorem dX5_watch_183 : decode cX5_watch 183 = .ok (.lcmp, 1) := by decide +kernel
theorem dX5_watch_184 : decode cX5_watch 184 = .ok (.ifCond .lt 7, 3) := by decide +kernel
theorem dX5_watch_187 : decode cX5_watch 187 = .ok (.iconst 1, 1) := by decide +kernel
theorem dX5_watch_188 : decode cX5_watch 188 = .ok (.goto 4, 3) := by decide +kernel
theorem dX5_watch_191 : decode cX5_watch 191 = .ok (.iconst 0, 1) := by decide +kernel
theorem dX5_watch_192 : decode cX5_watch 192 = .ok (.istore 12, 2) := by decide +kernel
theorem dX5_watch_194 : decode cX5_watch 194 = .ok (.iload 12, 2) := by decide +kernel
theorem dX5_watch_196 : decode cX5_watch 196 = .ok (.ifCond .eq 31, 3) := by decide +kernel
theorem dX5_watch_199 : decode cX5_watch 199 = .ok (.aload_n 0, 1) := by decide +kernel
theorem dX5_watch_200 : decode cX5_watch 200 = .ok (.dup, 1) := by decide +kernel
theorem dX5_watch_201 : decode cX5_watch 201 = .ok (.getfield 169, 3) := by decide +kernel
theorem dX5_watch_204 : decode cX5_watch 204 = .ok (.iload 6, 2) := by decide +kernel
theorem dX5_watch_206 : decode cX5_watch 206 = .ok (.ifCond .eq 7, 3) := by decide +kernel
theorem dX5_watch_209 : decode cX5_watch 209 = .ok (.iconst 0, 1) := by decide +kernel
theorem dX5_watch_210 : decode cX5_watch 210 = .ok (.goto 4, 3) := by decide +kernel
theorem dX5_watch_213 : decode cX5_watch 213 = .ok (.iconst 1, 1) := by decide +kernel
theorem dX5_watch_214 : decode cX5_watch 214 = .ok (.iadd, 1) := by decide +kernel
theorem dX5_watch_215 : decode cX5_watch 215 = .ok (.putfield 169, 3) := by decide +kernel
theorem dX5_watch_218 : decode cX5_watch 218 = .ok (.iconst 1, 1) := by decide +kernel
theorem dX5_watch_219 : decode cX5_watch 219 = .ok (.istore 6, 2) := by decide +kernel
theorem dX5_watch_221 : decode cX5_watch 221 = .ok (.iconst 0, 1) := by decide +kernel
theorem dX5_watch_222 : decode cX5_watch 222 = .ok (.istore 7, 2) := by decide +kernel
theorem dX5_watch_224 : decode cX5_watch 224 = .ok (.goto 30, 3) := by decide +kernel
theorem dX5_watch_227 : decode cX5_watch 227 = .ok (.iload 11, 2) := by decide +kernel
theorem dX5_watch_229 : decode cX5_watch 229 = .ok (.ifCond .eq 25, 3) := by decide +kernel
theorem dX5_watch_232 : decode cX5_watch 232 = .ok (.iload 6, 2) := by decide +kernel
theorem dX5_watch_234 : decode cX5_watch 234 = .ok (.ifCond .eq 20, 3) := by decide +kernel
theorem dX5_watch_237 : decode cX5_watch 237 = .ok (.iinc 7 1, 3) := by decide +kernel
theorem dX5_watch_240 : decode cX5_watch 240 = .ok (.iload 7, 2) := by decide +kernel
theorem dX5_watch_242 : decode cX5_watch 242 = .ok (.iload 4, 2) := by decide +kernel
theorem dX5_watch_244 : decode cX5_watch 244 = .ok (.if_icmp .ge 7, 3) := by decide +kernel
theorem dX5_watch_247 : decode cX5_watch 247 = .ok (.iconst 1, 1) := by decide +kernel
theorem dX5_watch_248 : decode cX5_watch 248 = .ok (.goto 4, 3) := by decide +kernel
theorem dX5_watch_251 : decode cX5_watch 251 = .ok (.iconst 0, 1) := by decide +kernel
theorem dX5_watch_252 : decode cX5_watch 252 = .ok (.istore 6, 2) := by decide +kernel
theorem dX5_watch_254 : decode cX5_watch 254 = .ok (.aload_n 0, 1) := by decide +kernel
theorem dX5_watch_255 : decode cX5_watch 255 = .ok (.getfield 63, 3) := by decide +kernel
theorem dX5_watch_258 : decode cX5_watch 258 = .ok (.aload_n 0, 1) := by decide +kernel
theorem dX5_watch_259 : decode cX5_watch 259 = .ok (.getfield 166, 3) := by decide +kernel
theorem dX5_watch_262 : decode cX5_watch 262 = .ok (.iload 6, 2) := by decide +kernel
theorem dX5_watch_264 : decode cX5_watch 264 = .ok (.bastore, 1) := by decide +kernel
theorem dX5_watch_265 : decode cX5_watch 265 = .ok (.aload_n 0, 1) := by decide +kernel
theorem dX5_watch_266 : decode cX5_watch 266 = .ok (.getfield 66, 3) := by decide +kernel
theorem dX5_watch_269 : decode cX5_watch 269 = .ok (.aload_n 0, 1) := by decide +kernel
theorem dX5_watch_270 : decode cX5_watch 270 = .ok (.getfield 166, 3) := by decide +kernel
theorem dX5_watch_273 : decode cX5_watch 273 = .ok (.iload 12, 2) := by decide +kernel
theorem dX5_watch_275 : decode cX5_watch 275 = .ok (.bastore, 1) := by decide +kernel
theorem dX5_watch_276 : decode cX5_watch 276 = .ok (.aload_n 0, 1) := by decide +kernel
theorem dX5_watch_277 : decode cX5_watch 277 = .ok (.getfield 69, 3) := by decide +kernel
theorem dX5_watch_280 : decode cX5_watch 280 = .ok (.aload_n 0, 1) := by decide +kernel
theorem dX5_watch_281 : decode cX5_watch 281 = .ok (.getfield 166, 3) := by decide +kernel
theorem dX5_watch_284 : decode cX5_watch 284 = .ok (.aload_n 0, 1) := by decide +kernel
theorem dX5_watch_285 : decode cX5_watch 285 = .ok (.getfield 133, 3) := by decide +kernel
theorem dX5_watch_288 : decode cX5_watch 288 = .ok (.iastore, 1) := by decide +kernel
theorem dX5_watch_289 : decode cX5_watch 289 = .ok (.aload_n 0, 1) := by decide +kernel
theorem dX5_watch_290 : decode cX5_watch 290 = .ok (.getfield 72, 3) := by decide +kernel
theorem dX5_watch_293 : decode cX5_watch 293 = .ok (.aload_n 0, 1) := by decide +kernel
theorem dX5_watch_294 : decode cX5_watch 294 = .ok (.getfield 166, 3) := by decide +kernel
theorem dX5_watch_297 : decode cX5_watch 297 = .ok (.iload 9, 2) := by decide +kernel
theorem dX5_watch_299 : decode cX5_watch 299 = .ok (.iastore, 1) := by decide +kernel
theorem dX5_watch_300 : decode cX5_watch 300 = .ok (.iload 8, 2) := by decide +kernel
theorem dX5_watch_302 : decode cX5_watch 302 = .ok (.iload 6, 2) := by decide +kernel
theorem dX5_watch_304 : decode cX5_watch 304 = .ok (.ifCond .eq 7, 3) := by decide +kernel
theorem dX5_watch_307 : decode cX5_watch 307 = .ok (.iconst 1, 1) := by decide +kernel
theorem dX5_watch_308 : decode cX5_watch 308 = .ok (.goto 4, 3) := by decide +kernel
theorem dX5_watch_311 : decode cX5_watch 311 = .ok (.iconst 0, 1) := by decide +kernel
theorem dX5_watch_312 : decode cX5_watch 312 = .ok (.iadd, 1) := by decide +kernel
theorem dX5_watch_313 : decode cX5_watch 313 = .ok (.istore 8, 2) := by decide +kernel
theorem dX5_watch_315 : decode cX5_watch 315 = .ok (.aload_n 0, 1) := by decide +kernel
theorem dX5_watch_316 : decode cX5_watch 316 = .ok (.dup, 1) := by decide +kernel
theorem dX5_watch_317 : decode cX5_watch 317 = .ok (.getfield 166, 3) := by decide +kernel
theorem dX5_watch_320 : decode cX5_watch 320 = .ok (.iconst 1, 1) := by decide +kernel
theorem dX5_watch_321 : decode cX5_watch 321 = .ok (.iadd, 1) := by decide +kernel
theorem dX5_watch_322 : decode cX5_watch 322 = .ok (.putfield 166, 3) := by decide +kernel
theorem dX5_watch_325 : decode cX5_watch 325 = .ok (.iload 9, 2) := by decide +kernel
theorem dX5_watch_327 : decode cX5_watch 327 = .ok (.iload_n 3, 1) := by decide +kernel
theorem dX5_watch_328 : decode cX5_watch 328 = .ok (.iadd, 1) := by decide +kernel
theorem dX5_watch_329 : decode cX5_watch 329 = .ok (.istore 9, 2) := by decide +kernel
theorem dX5_watch_331 : decode cX5_watch 331 = .ok (.goto (-225), 3) := by decide +kernel
theorem dX5_watch_334 : decode cX5_watch 334 = .ok (.iload 8, 2) := by decide +kernel
theorem dX5_watch_336 : decode cX5_watch 336 = .ok (.ireturn, 1) := by decide +kernel
set_option maxRecDepth 20000 in
theorem ggX5_step_X5_in : GoodIn wsX5_step wsX5_in := goodIn_r _ [11] (by decide +kernel) (by decide +kernel)
set_option maxRecDepth 20000 in
theorem gX5_step_X5_in : GoodIn wsX5_step (va_wsS RX5 79 yX5_in wsX5_in) := goodIn_app (goodIn_of _ (by decide +kernel)) ggX5_step_X5_in
theorem dX5_step_0 : decode cX5_step 0 = .ok (.aload_n 0, 1) := by decide +kernel
theorem dX5_step_1 : decode cX5_step 1 = .ok (.iconst 0, 1) := by decide +kernel
theorem dX5_step_2 : decode cX5_step 2 = .ok (.putfield 75, 3) := by decide +kernel
theorem dX5_step_5 : decode cX5_step 5 = .ok (.iload_n 1, 1) := by decide +kernel
theorem dX5_step_6 : decode cX5_step 6 = .ok (.iconst 0, 1) := by decide +kernel
theorem dX5_step_7 : decode cX5_step 7 = .ok (.aload_n 0, 1) := by decide +kernel
theorem dX5_step_8 : decode cX5_step 8 = .ok (.getfield 166, 3) := by decide +kernel
theorem dX5_step_11 : decode cX5_step 11 = .ok (.iconst 1, 1) := by decide +kernel
theorem dX5_step_12 : decode cX5_step 12 = .ok (.isub, 1) := by decide +kernel
theorem dX5_step_13 : decode cX5_step 13 = .ok (.invokestatic 79, 3) := by decide +kernel
theorem dX5_step_16 : decode cX5_step 16 = .ok (.ifCond .ne 6, 3) := by decide +kernel
theorem dX5_step_19 : decode cX5_step 19 = .ok (.ldc 88, 2) := by decide +kernel
theorem dX5_step_21 : decode cX5_step 21 = .ok (.ireturn, 1) := by decide +kernel
theorem dX5_step_22 : decode cX5_step 22 = .ok (.iload_n 2, 1) := by decide +kernel
theorem dX5_step_23 : decode cX5_step 23 = .ok (.tableswitch 73 0 3 #[29, 44, 59, 66], 29) := by decide +kernel
theorem dX5_step_52 : decode cX5_step 52 = .ok (.aload_n 0, 1) := by decide +kernel
theorem dX5_step_53 : decode cX5_step 53 = .ok (.getfield 63, 3) := by decide +kernel
theorem dX5_step_56 : decode cX5_step 56 = .ok (.iload_n 1, 1) := by decide +kernel
theorem dX5_step_57 : decode cX5_step 57 = .ok (.baload, 1) := by decide +kernel
theorem dX5_step_58 : decode cX5_step 58 = .ok (.ifCond .eq 7, 3) := by decide +kernel
theorem dX5_step_61 : decode cX5_step 61 = .ok (.iconst 1, 1) := by decide +kernel
theorem dX5_step_62 : decode cX5_step 62 = .ok (.goto 4, 3) := by decide +kernel
theorem dX5_step_65 : decode cX5_step 65 = .ok (.iconst 0, 1) := by decide +kernel
theorem dX5_step_66 : decode cX5_step 66 = .ok (.ireturn, 1) := by decide +kernel
theorem dX5_step_67 : decode cX5_step 67 = .ok (.aload_n 0, 1) := by decide +kernel
theorem dX5_step_68 : decode cX5_step 68 = .ok (.getfield 66, 3) := by decide +kernel
theorem dX5_step_71 : decode cX5_step 71 = .ok (.iload_n 1, 1) := by decide +kernel
theorem dX5_step_72 : decode cX5_step 72 = .ok (.baload, 1) := by decide +kernel
theorem dX5_step_73 : decode cX5_step 73 = .ok (.ifCond .eq 7, 3) := by decide +kernel
theorem dX5_step_76 : decode cX5_step 76 = .ok (.iconst 1, 1) := by decide +kernel
theorem dX5_step_77 : decode cX5_step 77 = .ok (.goto 4, 3) := by decide +kernel
theorem dX5_step_80 : decode cX5_step 80 = .ok (.iconst 0, 1) := by decide +kernel
theorem dX5_step_81 : decode cX5_step 81 = .ok (.ireturn, 1) := by decide +kernel
theorem dX5_step_82 : decode cX5_step 82 = .ok (.aload_n 0, 1) := by decide +kernel
theorem dX5_step_83 : decode cX5_step 83 = .ok (.getfield 69, 3) := by decide +kernel
theorem dX5_step_86 : decode cX5_step 86 = .ok (.iload_n 1, 1) := by decide +kernel
theorem dX5_step_87 : decode cX5_step 87 = .ok (.iaload, 1) := by decide +kernel
theorem dX5_step_88 : decode cX5_step 88 = .ok (.ireturn, 1) := by decide +kernel
theorem dX5_step_89 : decode cX5_step 89 = .ok (.aload_n 0, 1) := by decide +kernel
theorem dX5_step_90 : decode cX5_step 90 = .ok (.getfield 72, 3) := by decide +kernel
theorem dX5_step_93 : decode cX5_step 93 = .ok (.iload_n 1, 1) := by decide +kernel
theorem dX5_step_94 : decode cX5_step 94 = .ok (.iaload, 1) := by decide +kernel
theorem dX5_step_95 : decode cX5_step 95 = .ok (.ireturn, 1) := by decide +kernel
theorem dX5_step_96 : decode cX5_step 96 = .ok (.ldc 88, 2) := by decide +kernel
theorem dX5_step_98 : decode cX5_step 98 = .ok (.ireturn, 1) := by decide +kernel
set_option maxRecDepth 20000 in
theorem ggX5_count_X5_hitsOf : GoodIn wsX5_count wsX5_hitsOf := goodIn_r _ [13, 2, 14, 15, 16, 17, 18, 19, 20, 21, 22, 23, 24, 25, 26, 27, 28, 29, 30, 31, 32, 33, 34, 35, 36, 37, 38, 39, 40, 41, 42, 43, 44] (by decide +kernel) (by decide +kernel)
set_option maxRecDepth 20000 in
theorem gX5_count_X5_hitsOf : GoodIn wsX5_count (wsV RX5 97 RX5 yX5_hitsOf wsX5_hitsOf) := goodIn_app (goodIn_of _ (by decide +kernel)) ggX5_count_X5_hitsOf
theorem dX5_count_0 : decode cX5_count 0 = .ok (.aload_n 0, 1) := by decide +kernel
theorem dX5_count_1 : decode cX5_count 1 = .ok (.iconst 0, 1) := by decide +kernel
theorem dX5_count_2 : decode cX5_count 2 = .ok (.putfield 75, 3) := by decide +kernel
theorem dX5_count_5 : decode cX5_count 5 = .ok (.iconst 0, 1) := by decide +kernel
theorem dX5_count_6 : decode cX5_count 6 = .ok (.istore_n 2, 1) := by decide +kernel
theorem dX5_count_7 : decode cX5_count 7 = .ok (.iload_n 1, 1) := by decide +kernel
theorem dX5_count_8 : decode cX5_count 8 = .ok (.tableswitch 145 0 5 #[40, 45, 53, 58, 63, 68], 40) := by decide +kernel
theorem dX5_count_48 : decode cX5_count 48 = .ok (.aload_n 0, 1) := by decide +kernel
theorem dX5_count_49 : decode cX5_count 49 = .ok (.getfield 84, 3) := by decide +kernel
theorem dX5_count_52 : decode cX5_count 52 = .ok (.ireturn, 1) := by decide +kernel
theorem dX5_count_53 : decode cX5_count 53 = .ok (.aload_n 0, 1) := by decide +kernel
theorem dX5_count_54 : decode cX5_count 54 = .ok (.ldc2_w 174, 3) := by decide +kernel
theorem dX5_count_57 : decode cX5_count 57 = .ok (.invokevirtual 97, 3) := by decide +kernel
theorem dX5_count_60 : decode cX5_count 60 = .ok (.ireturn, 1) := by decide +kernel
theorem dX5_count_61 : decode cX5_count 61 = .ok (.aload_n 0, 1) := by decide +kernel
theorem dX5_count_62 : decode cX5_count 62 = .ok (.getfield 100, 3) := by decide +kernel
theorem dX5_count_65 : decode cX5_count 65 = .ok (.ireturn, 1) := by decide +kernel
theorem dX5_count_66 : decode cX5_count 66 = .ok (.aload_n 0, 1) := by decide +kernel
theorem dX5_count_67 : decode cX5_count 67 = .ok (.getfield 166, 3) := by decide +kernel
theorem dX5_count_70 : decode cX5_count 70 = .ok (.ireturn, 1) := by decide +kernel
theorem dX5_count_71 : decode cX5_count 71 = .ok (.aload_n 0, 1) := by decide +kernel
theorem dX5_count_72 : decode cX5_count 72 = .ok (.getfield 169, 3) := by decide +kernel
theorem dX5_count_75 : decode cX5_count 75 = .ok (.ireturn, 1) := by decide +kernel
theorem dX5_count_76 : decode cX5_count 76 = .ok (.iconst 0, 1) := by decide +kernel
theorem dX5_count_77 : decode cX5_count 77 = .ok (.istore_n 3, 1) := by decide +kernel
theorem dX5_count_78 : decode cX5_count 78 = .ok (.iload_n 3, 1) := by decide +kernel
theorem dX5_count_79 : decode cX5_count 79 = .ok (.aload_n 0, 1) := by decide +kernel
theorem dX5_count_80 : decode cX5_count 80 = .ok (.getfield 84, 3) := by decide +kernel
theorem dX5_count_83 : decode cX5_count 83 = .ok (.if_icmp .ge 68, 3) := by decide +kernel
theorem dX5_count_86 : decode cX5_count 86 = .ok (.iconst 0, 1) := by decide +kernel
theorem dX5_count_87 : decode cX5_count 87 = .ok (.istore 4, 2) := by decide +kernel
theorem dX5_count_89 : decode cX5_count 89 = .ok (.iconst 0, 1) := by decide +kernel
theorem dX5_count_90 : decode cX5_count 90 = .ok (.istore 5, 2) := by decide +kernel
theorem dX5_count_92 : decode cX5_count 92 = .ok (.iload 5, 2) := by decide +kernel
theorem dX5_count_94 : decode cX5_count 94 = .ok (.iconst 5, 1) := by decide +kernel
theorem dX5_count_95 : decode cX5_count 95 = .ok (.if_icmp .ge 37, 3) := by decide +kernel
theorem dX5_count_98 : decode cX5_count 98 = .ok (.iload 4, 2) := by decide +kernel
theorem dX5_count_100 : decode cX5_count 100 = .ok (.ifCond .ne 19, 3) := by decide +kernel
theorem dX5_count_103 : decode cX5_count 103 = .ok (.aload_n 0, 1) := by decide +kernel
theorem dX5_count_104 : decode cX5_count 104 = .ok (.getfield 17, 3) := by decide +kernel
theorem dX5_count_107 : decode cX5_count 107 = .ok (.iconst 5, 1) := by decide +kernel
theorem dX5_count_108 : decode cX5_count 108 = .ok (.iload_n 3, 1) := by decide +kernel
theorem dX5_count_109 : decode cX5_count 109 = .ok (.imul, 1) := by decide +kernel
theorem dX5_count_110 : decode cX5_count 110 = .ok (.iload 5, 2) := by decide +kernel
theorem dX5_count_112 : decode cX5_count 112 = .ok (.iadd, 1) := by decide +kernel
theorem dX5_count_113 : decode cX5_count 113 = .ok (.iaload, 1) := by decide +kernel
theorem dX5_count_114 : decode cX5_count 114 = .ok (.bipush 10, 2) := by decide +kernel
theorem dX5_count_116 : decode cX5_count 116 = .ok (.if_icmp .ne 7, 3) := by decide +kernel
theorem dX5_count_119 : decode cX5_count 119 = .ok (.iconst 1, 1) := by decide +kernel
theorem dX5_count_120 : decode cX5_count 120 = .ok (.goto 4, 3) := by decide +kernel
theorem dX5_count_123 : decode cX5_count 123 = .ok (.iconst 0, 1) := by decide +kernel
theorem dX5_count_124 : decode cX5_count 124 = .ok (.istore 4, 2) := by decide +kernel
theorem dX5_count_126 : decode cX5_count 126 = .ok (.iinc 5 1, 3) := by decide +kernel
theorem dX5_count_129 : decode cX5_count 129 = .ok (.goto (-37), 3) := by decide +kernel
theorem dX5_count_132 : decode cX5_count 132 = .ok (.iload_n 2, 1) := by decide +kernel
theorem dX5_count_133 : decode cX5_count 133 = .ok (.iload 4, 2) := by decide +kernel
theorem dX5_count_135 : decode cX5_count 135 = .ok (.ifCond .eq 7, 3) := by decide +kernel
theorem dX5_count_138 : decode cX5_count 138 = .ok (.iconst 1, 1) := by decide +kernel
theorem dX5_count_139 : decode cX5_count 139 = .ok (.goto 4, 3) := by decide +kernel
theorem dX5_count_142 : decode cX5_count 142 = .ok (.iconst 0, 1) := by decide +kernel
theorem dX5_count_143 : decode cX5_count 143 = .ok (.iadd, 1) := by decide +kernel
theorem dX5_count_144 : decode cX5_count 144 = .ok (.istore_n 2, 1) := by decide +kernel
theorem dX5_count_145 : decode cX5_count 145 = .ok (.iinc 3 1, 3) := by decide +kernel
theorem dX5_count_148 : decode cX5_count 148 = .ok (.goto (-70), 3) := by decide +kernel
theorem dX5_count_151 : decode cX5_count 151 = .ok (.iload_n 2, 1) := by decide +kernel
theorem dX5_count_152 : decode cX5_count 152 = .ok (.ireturn, 1) := by decide +kernel
theorem dX5_count_153 : decode cX5_count 153 = .ok (.ldc 88, 2) := by decide +kernel
theorem dX5_count_155 : decode cX5_count 155 = .ok (.ireturn, 1) := by decide +kernel
