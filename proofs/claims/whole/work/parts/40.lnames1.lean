theorem fap {a b t : List Cond} (h1 : ∀ w ∈ a, w ∈ t) (h2 : ∀ w ∈ b, w ∈ t) : ∀ w ∈ a ++ b, w ∈ t := fun w h => (List.mem_append.mp h).elim (h1 w) (h2 w)
set_option maxRecDepth 20000 in
theorem lwi_wsL_law0_r1 : ∀ w ∈ wsL_law0_r1, w ∈ lw_tbl := by decide +kernel
set_option maxRecDepth 20000 in
theorem lwi_wsL_law0_r2 : ∀ w ∈ wsL_law0_r2, w ∈ lw_tbl := by decide +kernel
set_option maxRecDepth 20000 in
theorem lwi_wsL_law0_r3 : ∀ w ∈ wsL_law0_r3, w ∈ lw_tbl := by decide +kernel
set_option maxRecDepth 20000 in
theorem lwi_wsL_law0_r4 : ∀ w ∈ wsL_law0_r4, w ∈ lw_tbl := by decide +kernel
set_option maxRecDepth 20000 in
theorem lwi_wsL_law0_r5 : ∀ w ∈ wsL_law0_r5, w ∈ lw_tbl := by decide +kernel
set_option maxRecDepth 20000 in
theorem lwi_wsL_law0_r6 : ∀ w ∈ wsL_law0_r6, w ∈ lw_tbl := by decide +kernel
set_option maxRecDepth 20000 in
theorem lwi_wsL_law0_r7 : ∀ w ∈ wsL_law0_r7, w ∈ lw_tbl := by decide +kernel
set_option maxRecDepth 20000 in
theorem lwi_wsL_law0_r8 : ∀ w ∈ wsL_law0_r8, w ∈ lw_tbl := by decide +kernel
set_option maxRecDepth 20000 in
theorem lwi_wsL_law0_r9 : ∀ w ∈ wsL_law0_r9, w ∈ lw_tbl := by decide +kernel
set_option maxRecDepth 20000 in
theorem lwi_wsL_law0_r10 : ∀ w ∈ wsL_law0_r10, w ∈ lw_tbl := by decide +kernel
set_option maxRecDepth 20000 in
theorem lwi_wsL_law0_r11 : ∀ w ∈ wsL_law0_r11, w ∈ lw_tbl := by decide +kernel
set_option maxRecDepth 20000 in
theorem lwi_wsL_law0_r12 : ∀ w ∈ wsL_law0_r12, w ∈ lw_tbl := by decide +kernel
set_option maxRecDepth 20000 in
theorem lwi_wsL_law0_r13 : ∀ w ∈ wsL_law0_r13, w ∈ lw_tbl := by decide +kernel
set_option maxRecDepth 20000 in
theorem lwi_wsL_law0_r14 : ∀ w ∈ wsL_law0_r14, w ∈ lw_tbl := by decide +kernel
set_option maxRecDepth 20000 in
theorem lwi_wsL_law0_r15 : ∀ w ∈ wsL_law0_r15, w ∈ lw_tbl := by decide +kernel
set_option maxRecDepth 20000 in
theorem lwi_wsL_law0_r16 : ∀ w ∈ wsL_law0_r16, w ∈ lw_tbl := by decide +kernel
set_option maxRecDepth 20000 in
theorem lwi_wsL_law0_r17 : ∀ w ∈ wsL_law0_r17, w ∈ lw_tbl := by decide +kernel
set_option maxRecDepth 20000 in
theorem lwi_wsL_law0_r18 : ∀ w ∈ wsL_law0_r18, w ∈ lw_tbl := by decide +kernel
set_option maxRecDepth 20000 in
theorem lwi_wsL_law0_r19 : ∀ w ∈ wsL_law0_r19, w ∈ lw_tbl := by decide +kernel
set_option maxRecDepth 20000 in
theorem lwi_wsL_law0_r20 : ∀ w ∈ wsL_law0_r20, w ∈ lw_tbl := by decide +kernel
set_option maxRecDepth 20000 in
theorem lwi_wsL_law0_r21 : ∀ w ∈ wsL_law0_r21, w ∈ lw_tbl := by decide +kernel
set_option maxRecDepth 20000 in
theorem lwi_wsL_law0_r22 : ∀ w ∈ wsL_law0_r22, w ∈ lw_tbl := by decide +kernel
set_option maxRecDepth 20000 in
theorem lwi_X4 : ∀ w ∈ wsX40, w ∈ lw_tbl := by decide +kernel
set_option maxRecDepth 20000 in
theorem lwi_X5 : ∀ w ∈ wsX50, w ∈ lw_tbl := by decide +kernel
set_option maxRecDepth 20000 in
theorem lwi_X2 : ∀ w ∈ wsX20, w ∈ lw_tbl := by decide +kernel
set_option maxRecDepth 20000 in
theorem lwi_X3 : ∀ w ∈ wsX30, w ∈ lw_tbl := by decide +kernel
set_option maxRecDepth 20000 in
theorem lwi_X1 : ∀ w ∈ wsX10, w ∈ lw_tbl := by decide +kernel
set_option maxRecDepth 20000 in
theorem lwi_X0 : ∀ w ∈ wsX00, w ∈ lw_tbl := by decide +kernel
theorem wsL_law_in0 : ∀ w ∈ wsL_law0, w ∈ lw_tbl := fap (fap (fap (fap (fap (fap (fap (fap lwi_wsL_law0_r1 (fap lwi_wsL_law0_r2 (fap lwi_wsL_law0_r3 (fap lwi_wsL_law0_r4 (fap lwi_wsL_law0_r5 (fap lwi_wsL_law0_r6 (fap lwi_wsL_law0_r7 (fap lwi_wsL_law0_r8 (fap lwi_wsL_law0_r9 (fap lwi_wsL_law0_r10 (fap lwi_wsL_law0_r11 (fap lwi_wsL_law0_r12 (fap lwi_wsL_law0_r13 (fap lwi_wsL_law0_r14 (fap lwi_wsL_law0_r15 (fap lwi_wsL_law0_r16 (fap lwi_wsL_law0_r17 (fap lwi_wsL_law0_r18 (fap lwi_wsL_law0_r19 (fap lwi_wsL_law0_r20 (fap lwi_wsL_law0_r21 (lwi_wsL_law0_r22)))))))))))))))))))))) lwi_X4) lwi_X5) lwi_X2) lwi_X3) lwi_X1) lwi_X0) (fun _ h => nomatch h)
theorem wsL_law_x0 : ∀ w ∈ (vx_atS RX4 137 "java/lang/ArithmeticException" ["java/lang/RuntimeException", "java/lang/Exception"]).filter goodWord, w ∈ lw_tbl := by decide +kernel
theorem wsL_law_in : ∀ w ∈ wsL_law, w ∈ lw_tbl := fun w h => (List.mem_append.mp h).elim (fun h => wsL_law_in0 w h) (fun h => wsL_law_x0 w h)
theorem inlX0 : ∀ w ∈ wsX00, w ∈ wsL_law := fun _ h => List.mem_append_left _ (List.mem_append_left _ (List.mem_append_right _ h))
theorem inX0 : ∀ w ∈ wsX00, w ∈ lw_tbl := fun w h => wsL_law_in w (inlX0 w h)
theorem inlX1 : ∀ w ∈ wsX10, w ∈ wsL_law := fun _ h => List.mem_append_left _ (List.mem_append_left _ (List.mem_append_left _ (List.mem_append_right _ h)))
theorem inX1 : ∀ w ∈ wsX10, w ∈ lw_tbl := fun w h => wsL_law_in w (inlX1 w h)
theorem inlX2 : ∀ w ∈ wsX20, w ∈ wsL_law := fun _ h => List.mem_append_left _ (List.mem_append_left _ (List.mem_append_left _ (List.mem_append_left _ (List.mem_append_left _ (List.mem_append_right _ h)))))
theorem inX2 : ∀ w ∈ wsX20, w ∈ lw_tbl := fun w h => wsL_law_in w (inlX2 w h)
theorem inlX3 : ∀ w ∈ wsX30, w ∈ wsL_law := fun _ h => List.mem_append_left _ (List.mem_append_left _ (List.mem_append_left _ (List.mem_append_left _ (List.mem_append_right _ h))))
theorem inX3 : ∀ w ∈ wsX30, w ∈ lw_tbl := fun w h => wsL_law_in w (inlX3 w h)
theorem inlX4 : ∀ w ∈ wsX40, w ∈ wsL_law := fun _ h => List.mem_append_left _ (List.mem_append_left _ (List.mem_append_left _ (List.mem_append_left _ (List.mem_append_left _ (List.mem_append_left _ (List.mem_append_left _ (List.mem_append_right _ h)))))))
theorem inX4 : ∀ w ∈ wsX40, w ∈ lw_tbl := fun w h => wsL_law_in w (inlX4 w h)
theorem inlX5 : ∀ w ∈ wsX50, w ∈ wsL_law := fun _ h => List.mem_append_left _ (List.mem_append_left _ (List.mem_append_left _ (List.mem_append_left _ (List.mem_append_left _ (List.mem_append_left _ (List.mem_append_right _ h))))))
theorem inX5 : ∀ w ∈ wsX50, w ∈ lw_tbl := fun w h => wsL_law_in w (inlX5 w h)
theorem inJ13 : ∀ w ∈ wsJ130, w ∈ lw_tbl := by decide +kernel
theorem inJ9 : ∀ w ∈ wsJ90, w ∈ lw_tbl := by decide +kernel
theorem inJ0 : ∀ w ∈ wsJ00, w ∈ lw_tbl := by decide +kernel
theorem inJ10 : ∀ w ∈ wsJ100, w ∈ lw_tbl := by decide +kernel
theorem inJ7 : ∀ w ∈ wsJ70, w ∈ lw_tbl := by decide +kernel
set_option maxRecDepth 20000 in
theorem ggL_gap_X4_gap : GoodIn wsL_gap wsX4_gap := goodIn_ca (goodIn_r _ [6, 7, 8, 9, 10, 11, 12, 13, 5, 14, 15, 16, 17, 18, 19, 20, 21, 22, 23, 24, 25, 26, 27, 28, 29, 30, 31, 32, 33, 34, 35, 36, 37, 38, 39, 40, 41, 42, 43, 44, 45, 46, 47, 48, 49, 50, 51, 52, 53, 54, 55, 56, 57, 58, 59] (by decide +kernel) (by decide +kernel)) (goodIn_sub (fun _ h => List.mem_cons_of_mem _ (List.mem_append_right _ h)) (by decide +kernel))
set_option maxRecDepth 20000 in
theorem gL_gap_X4_gap : GoodIn wsL_gap (wsV RL 7 RX4 yX4_gap wsX4_gap) := goodIn_app (goodIn_of _ (by decide +kernel)) ggL_gap_X4_gap
theorem dL_gap_0 : decode cL_gap 0 = .ok (.aload 5, 2) := by decide +kernel
theorem dL_gap_2 : decode cL_gap 2 = .ok (.iconst 0, 1) := by decide +kernel
theorem dL_gap_3 : decode cL_gap 3 = .ok (.aload_n 0, 1) := by decide +kernel
theorem dL_gap_4 : decode cL_gap 4 = .ok (.iload_n 1, 1) := by decide +kernel
theorem dL_gap_5 : decode cL_gap 5 = .ok (.iload_n 2, 1) := by decide +kernel
theorem dL_gap_6 : decode cL_gap 6 = .ok (.iload_n 3, 1) := by decide +kernel
theorem dL_gap_7 : decode cL_gap 7 = .ok (.iload 4, 2) := by decide +kernel
theorem dL_gap_9 : decode cL_gap 9 = .ok (.invokevirtual 7, 3) := by decide +kernel
theorem dL_gap_12 : decode cL_gap 12 = .ok (.lastore, 1) := by decide +kernel
theorem dL_gap_13 : decode cL_gap 13 = .ok (.goto 7, 3) := by decide +kernel
theorem dL_gap_16 : decode cL_gap 16 = .ok (.astore 6, 2) := by decide +kernel
theorem dL_gap_18 : decode cL_gap 18 = .ok (.iconst 1, 1) := by decide +kernel
theorem dL_gap_19 : decode cL_gap 19 = .ok (.ireturn, 1) := by decide +kernel
theorem dL_gap_20 : decode cL_gap 20 = .ok (.iconst 0, 1) := by decide +kernel
theorem dL_gap_21 : decode cL_gap 21 = .ok (.ireturn, 1) := by decide +kernel
set_option maxRecDepth 20000 in
theorem ggL_drift_X4_drift : GoodIn wsL_drift wsX4_drift := goodIn_ca (goodIn_r _ [6, 7, 8, 9, 10, 11, 12, 13, 5, 14, 15, 16, 17, 18, 19, 20, 21, 22, 23, 24, 25, 26, 27, 28, 29, 30, 31, 32, 33, 34, 35, 36, 37, 38, 39, 40, 41, 42, 43, 44, 45, 46, 47, 48, 49, 50, 51, 52, 53, 54, 55, 56, 57, 58, 59, 60, 61, 62, 63, 64, 65, 66, 67, 68, 69, 70, 71, 72, 73, 74, 75, 76] (by decide +kernel) (by decide +kernel)) (goodIn_sub (fun _ h => List.mem_cons_of_mem _ (List.mem_append_right _ h)) (by decide +kernel))
set_option maxRecDepth 20000 in
theorem gL_drift_X4_drift : GoodIn wsL_drift (wsV RL 15 RX4 yX4_drift wsX4_drift) := goodIn_app (goodIn_of _ (by decide +kernel)) ggL_drift_X4_drift
theorem dL_drift_0 : decode cL_drift 0 = .ok (.aload 6, 2) := by decide +kernel
theorem dL_drift_2 : decode cL_drift 2 = .ok (.iconst 0, 1) := by decide +kernel
theorem dL_drift_3 : decode cL_drift 3 = .ok (.aload_n 0, 1) := by decide +kernel
theorem dL_drift_4 : decode cL_drift 4 = .ok (.iload_n 1, 1) := by decide +kernel
theorem dL_drift_5 : decode cL_drift 5 = .ok (.iload_n 2, 1) := by decide +kernel
theorem dL_drift_6 : decode cL_drift 6 = .ok (.iload_n 3, 1) := by decide +kernel
theorem dL_drift_7 : decode cL_drift 7 = .ok (.iload 4, 2) := by decide +kernel
theorem dL_drift_9 : decode cL_drift 9 = .ok (.iload 5, 2) := by decide +kernel
theorem dL_drift_11 : decode cL_drift 11 = .ok (.invokevirtual 15, 3) := by decide +kernel
theorem dL_drift_14 : decode cL_drift 14 = .ok (.lastore, 1) := by decide +kernel
theorem dL_drift_15 : decode cL_drift 15 = .ok (.goto 7, 3) := by decide +kernel
theorem dL_drift_18 : decode cL_drift 18 = .ok (.astore 7, 2) := by decide +kernel
theorem dL_drift_20 : decode cL_drift 20 = .ok (.iconst 1, 1) := by decide +kernel
theorem dL_drift_21 : decode cL_drift 21 = .ok (.ireturn, 1) := by decide +kernel
theorem dL_drift_22 : decode cL_drift 22 = .ok (.iconst 0, 1) := by decide +kernel
theorem dL_drift_23 : decode cL_drift 23 = .ok (.ireturn, 1) := by decide +kernel
set_option maxRecDepth 20000 in
theorem ggL_shift_X4_shift : GoodIn wsL_shift wsX4_shift := goodIn_ca (goodIn_r _ [6, 7, 8, 9, 10, 11, 12, 13, 14, 5, 15, 16, 17, 18, 19, 20, 21, 22, 23, 24, 25, 26, 27, 28, 29, 30, 31, 32, 33, 34, 35, 36, 37, 38, 39, 40, 41, 42, 43, 44, 45, 46, 47, 48, 49, 50, 51, 52, 53, 54, 55, 56, 57, 58, 59, 60, 61, 62, 63, 64, 65, 66] (by decide +kernel) (by decide +kernel)) (goodIn_sub (fun _ h => List.mem_cons_of_mem _ (List.mem_append_right _ h)) (by decide +kernel))
set_option maxRecDepth 20000 in
theorem gL_shift_X4_shift : GoodIn wsL_shift (wsV RL 19 RX4 yX4_shift wsX4_shift) := goodIn_app (goodIn_of _ (by decide +kernel)) ggL_shift_X4_shift
theorem dL_shift_0 : decode cL_shift 0 = .ok (.aload 7, 2) := by decide +kernel
theorem dL_shift_2 : decode cL_shift 2 = .ok (.iconst 0, 1) := by decide +kernel
theorem dL_shift_3 : decode cL_shift 3 = .ok (.aload_n 0, 1) := by decide +kernel
theorem dL_shift_4 : decode cL_shift 4 = .ok (.iload_n 1, 1) := by decide +kernel
theorem dL_shift_5 : decode cL_shift 5 = .ok (.iload_n 2, 1) := by decide +kernel
theorem dL_shift_6 : decode cL_shift 6 = .ok (.iload_n 3, 1) := by decide +kernel
theorem dL_shift_7 : decode cL_shift 7 = .ok (.iload 4, 2) := by decide +kernel
theorem dL_shift_9 : decode cL_shift 9 = .ok (.iload 5, 2) := by decide +kernel
theorem dL_shift_11 : decode cL_shift 11 = .ok (.iload 6, 2) := by decide +kernel
theorem dL_shift_13 : decode cL_shift 13 = .ok (.invokevirtual 19, 3) := by decide +kernel
theorem dL_shift_16 : decode cL_shift 16 = .ok (.lastore, 1) := by decide +kernel
theorem dL_shift_17 : decode cL_shift 17 = .ok (.goto 7, 3) := by decide +kernel
theorem dL_shift_20 : decode cL_shift 20 = .ok (.astore 8, 2) := by decide +kernel
theorem dL_shift_22 : decode cL_shift 22 = .ok (.iconst 1, 1) := by decide +kernel
theorem dL_shift_23 : decode cL_shift 23 = .ok (.ireturn, 1) := by decide +kernel
theorem dL_shift_24 : decode cL_shift 24 = .ok (.iconst 0, 1) := by decide +kernel
theorem dL_shift_25 : decode cL_shift 25 = .ok (.ireturn, 1) := by decide +kernel
set_option maxRecDepth 20000 in
theorem ggL_order_X4_order : GoodIn wsL_order wsX4_order := goodIn_ca (goodIn_r _ [6, 7, 8, 9, 10, 11, 12, 13, 5, 14, 15, 16, 17, 18, 19, 20, 21, 22, 23, 24, 25, 26, 27, 28, 29, 30, 31, 32, 33, 34, 35, 36, 37, 38, 39, 40, 41, 42, 43, 44, 45, 46, 47, 48, 49, 50, 51, 52, 53, 54, 55, 56, 57, 58, 59, 60, 61] (by decide +kernel) (by decide +kernel)) (goodIn_sub (fun _ h => List.mem_cons_of_mem _ (List.mem_append_right _ h)) (by decide +kernel))
set_option maxRecDepth 20000 in
theorem gL_order_X4_order : GoodIn wsL_order (wsV RL 23 RX4 yX4_order wsX4_order) := goodIn_app (goodIn_of _ (by decide +kernel)) ggL_order_X4_order
theorem dL_order_0 : decode cL_order 0 = .ok (.aload 5, 2) := by decide +kernel
theorem dL_order_2 : decode cL_order 2 = .ok (.iconst 0, 1) := by decide +kernel
theorem dL_order_3 : decode cL_order 3 = .ok (.aload_n 0, 1) := by decide +kernel
theorem dL_order_4 : decode cL_order 4 = .ok (.iload_n 1, 1) := by decide +kernel
theorem dL_order_5 : decode cL_order 5 = .ok (.iload_n 2, 1) := by decide +kernel
theorem dL_order_6 : decode cL_order 6 = .ok (.iload_n 3, 1) := by decide +kernel
theorem dL_order_7 : decode cL_order 7 = .ok (.iload 4, 2) := by decide +kernel
theorem dL_order_9 : decode cL_order 9 = .ok (.invokevirtual 23, 3) := by decide +kernel
theorem dL_order_12 : decode cL_order 12 = .ok (.i2l, 1) := by decide +kernel
theorem dL_order_13 : decode cL_order 13 = .ok (.lastore, 1) := by decide +kernel
theorem dL_order_14 : decode cL_order 14 = .ok (.goto 7, 3) := by decide +kernel
theorem dL_order_17 : decode cL_order 17 = .ok (.astore 6, 2) := by decide +kernel
theorem dL_order_19 : decode cL_order 19 = .ok (.iconst 1, 1) := by decide +kernel
theorem dL_order_20 : decode cL_order 20 = .ok (.ireturn, 1) := by decide +kernel
theorem dL_order_21 : decode cL_order 21 = .ok (.iconst 0, 1) := by decide +kernel
theorem dL_order_22 : decode cL_order 22 = .ok (.ireturn, 1) := by decide +kernel
