theorem dX8_winnerOf_21 : decode cX8_winnerOf 21 = .ok (.iload_n 3, 1) := by decide +kernel
theorem dX8_winnerOf_22 : decode cX8_winnerOf 22 = .ok (.invokevirtual 299, 3) := by decide +kernel
theorem dX8_winnerOf_25 : decode cX8_winnerOf 25 = .ok (.iadd, 1) := by decide +kernel
theorem dX8_winnerOf_26 : decode cX8_winnerOf 26 = .ok (.istore_n 2, 1) := by decide +kernel
theorem dX8_winnerOf_27 : decode cX8_winnerOf 27 = .ok (.iinc 3 1, 3) := by decide +kernel
theorem dX8_winnerOf_30 : decode cX8_winnerOf 30 = .ok (.goto (-17), 3) := by decide +kernel
theorem dX8_winnerOf_33 : decode cX8_winnerOf 33 = .ok (.iload_n 2, 1) := by decide +kernel
theorem dX8_winnerOf_34 : decode cX8_winnerOf 34 = .ok (.ifCond .ne 5, 3) := by decide +kernel
theorem dX8_winnerOf_37 : decode cX8_winnerOf 37 = .ok (.iconst (-1), 1) := by decide +kernel
theorem dX8_winnerOf_38 : decode cX8_winnerOf 38 = .ok (.ireturn, 1) := by decide +kernel
theorem dX8_winnerOf_39 : decode cX8_winnerOf 39 = .ok (.iload_n 2, 1) := by decide +kernel
theorem dX8_winnerOf_40 : decode cX8_winnerOf 40 = .ok (.ifCond .le 10, 3) := by decide +kernel
theorem dX8_winnerOf_43 : decode cX8_winnerOf 43 = .ok (.aload_n 1, 1) := by decide +kernel
theorem dX8_winnerOf_44 : decode cX8_winnerOf 44 = .ok (.getfield 302, 3) := by decide +kernel
theorem dX8_winnerOf_47 : decode cX8_winnerOf 47 = .ok (.goto 7, 3) := by decide +kernel
theorem dX8_winnerOf_50 : decode cX8_winnerOf 50 = .ok (.aload_n 1, 1) := by decide +kernel
theorem dX8_winnerOf_51 : decode cX8_winnerOf 51 = .ok (.getfield 305, 3) := by decide +kernel
theorem dX8_winnerOf_54 : decode cX8_winnerOf 54 = .ok (.ireturn, 1) := by decide +kernel
theorem dJ9_abs_0f7a4_0 : decode cJ9_abs_0f7a4 0 = .ok (.iload_n 0, 1) := by decide +kernel
theorem dJ9_abs_0f7a4_1 : decode cJ9_abs_0f7a4 1 = .ok (.ifCond .ge 8, 3) := by decide +kernel
theorem dJ9_abs_0f7a4_4 : decode cJ9_abs_0f7a4 4 = .ok (.iload_n 0, 1) := by decide +kernel
theorem dJ9_abs_0f7a4_5 : decode cJ9_abs_0f7a4 5 = .ok (.ineg, 1) := by decide +kernel
theorem dJ9_abs_0f7a4_6 : decode cJ9_abs_0f7a4 6 = .ok (.goto 4, 3) := by decide +kernel
theorem dJ9_abs_0f7a4_9 : decode cJ9_abs_0f7a4 9 = .ok (.iload_n 0, 1) := by decide +kernel
theorem dJ9_abs_0f7a4_10 : decode cJ9_abs_0f7a4 10 = .ok (.ireturn, 1) := by decide +kernel
theorem dJ9_max_7cf53_0 : decode cJ9_max_7cf53 0 = .ok (.iload_n 0, 1) := by decide +kernel
theorem dJ9_max_7cf53_1 : decode cJ9_max_7cf53 1 = .ok (.iload_n 1, 1) := by decide +kernel
theorem dJ9_max_7cf53_2 : decode cJ9_max_7cf53 2 = .ok (.if_icmp .lt 7, 3) := by decide +kernel
theorem dJ9_max_7cf53_5 : decode cJ9_max_7cf53 5 = .ok (.iload_n 0, 1) := by decide +kernel
theorem dJ9_max_7cf53_6 : decode cJ9_max_7cf53 6 = .ok (.goto 4, 3) := by decide +kernel
theorem dJ9_max_7cf53_9 : decode cJ9_max_7cf53 9 = .ok (.iload_n 1, 1) := by decide +kernel
theorem dJ9_max_7cf53_10 : decode cJ9_max_7cf53 10 = .ok (.ireturn, 1) := by decide +kernel
theorem dJ9_min_7cf53_0 : decode cJ9_min_7cf53 0 = .ok (.iload_n 0, 1) := by decide +kernel
theorem dJ9_min_7cf53_1 : decode cJ9_min_7cf53 1 = .ok (.iload_n 1, 1) := by decide +kernel
theorem dJ9_min_7cf53_2 : decode cJ9_min_7cf53 2 = .ok (.if_icmp .gt 7, 3) := by decide +kernel
theorem dJ9_min_7cf53_5 : decode cJ9_min_7cf53 5 = .ok (.iload_n 0, 1) := by decide +kernel
theorem dJ9_min_7cf53_6 : decode cJ9_min_7cf53 6 = .ok (.goto 4, 3) := by decide +kernel
theorem dJ9_min_7cf53_9 : decode cJ9_min_7cf53 9 = .ok (.iload_n 1, 1) := by decide +kernel
theorem dJ9_min_7cf53_10 : decode cJ9_min_7cf53 10 = .ok (.ireturn, 1) := by decide +kernel
theorem dL_at_0 : decode cL_at 0 = .ok (.iload_n 1, 1) := by decide +kernel
theorem dL_at_1 : decode cL_at 1 = .ok (.aload_n 0, 1) := by decide +kernel
theorem dL_at_2 : decode cL_at 2 = .ok (.arraylength, 1) := by decide +kernel
theorem dL_at_3 : decode cL_at 3 = .ok (.if_icmp .ge 9, 3) := by decide +kernel
theorem dL_at_6 : decode cL_at 6 = .ok (.aload_n 0, 1) := by decide +kernel
theorem dL_at_7 : decode cL_at 7 = .ok (.iload_n 1, 1) := by decide +kernel
theorem dL_at_8 : decode cL_at 8 = .ok (.iaload, 1) := by decide +kernel
theorem dL_at_9 : decode cL_at 9 = .ok (.goto 12, 3) := by decide +kernel
theorem dL_at_12 : decode cL_at 12 = .ok (.ldc 7, 2) := by decide +kernel
theorem dL_at_14 : decode cL_at 14 = .ok (.iload_n 1, 1) := by decide +kernel
theorem dL_at_15 : decode cL_at 15 = .ok (.iconst 1, 1) := by decide +kernel
theorem dL_at_16 : decode cL_at 16 = .ok (.iadd, 1) := by decide +kernel
theorem dL_at_17 : decode cL_at 17 = .ok (.imul, 1) := by decide +kernel
theorem dL_at_18 : decode cL_at 18 = .ok (.ldc 8, 2) := by decide +kernel
theorem dL_at_20 : decode cL_at 20 = .ok (.iadd, 1) := by decide +kernel
theorem dL_at_21 : decode cL_at 21 = .ok (.ireturn, 1) := by decide +kernel
theorem dL_low_0 : decode cL_low 0 = .ok (.iload_n 0, 1) := by decide +kernel
theorem dL_low_1 : decode cL_low 1 = .ok (.ldc 9, 2) := by decide +kernel
theorem dL_low_3 : decode cL_low 3 = .ok (.iand, 1) := by decide +kernel
theorem dL_low_4 : decode cL_low 4 = .ok (.iload_n 1, 1) := by decide +kernel
theorem dL_low_5 : decode cL_low 5 = .ok (.irem, 1) := by decide +kernel
theorem dL_low_6 : decode cL_low 6 = .ok (.ireturn, 1) := by decide +kernel
set_option maxRecDepth 20000 in
theorem ggL_stroke_X8_stroke : GoodIn wsL_stroke wsX8_stroke := goodIn_ca (goodIn_ca (goodIn_r _ [9, 10, 11, 12, 13, 14, 15, 16, 17, 18, 19, 20, 8, 21, 22, 23, 24, 25, 26, 27, 28, 29, 30, 31, 32, 33, 34, 35, 36, 37, 38, 39, 40, 41, 42, 43, 44, 45, 46, 47, 48, 49, 50, 51, 52, 53, 54, 55, 56, 57] (by decide +kernel) (by decide +kernel)) (goodIn_sub (fun _ h => List.mem_cons_of_mem _ (List.mem_append_left _ (List.mem_append_right _ h))) (by decide +kernel))) (goodIn_sub (fun _ h => List.mem_cons_of_mem _ (List.mem_append_right _ h)) (by decide +kernel))
set_option maxRecDepth 20000 in
theorem gL_stroke_X8_stroke : GoodIn wsL_stroke (wsV RL 10 RX8 yX8_stroke wsX8_stroke) := goodIn_app (goodIn_of _ (by decide +kernel)) ggL_stroke_X8_stroke
theorem dL_stroke_0 : decode cL_stroke 0 = .ok (.aload_n 0, 1) := by decide +kernel
theorem dL_stroke_1 : decode cL_stroke 1 = .ok (.iload_n 1, 1) := by decide +kernel
theorem dL_stroke_2 : decode cL_stroke 2 = .ok (.iload_n 2, 1) := by decide +kernel
theorem dL_stroke_3 : decode cL_stroke 3 = .ok (.iload_n 3, 1) := by decide +kernel
theorem dL_stroke_4 : decode cL_stroke 4 = .ok (.iload 4, 2) := by decide +kernel
theorem dL_stroke_6 : decode cL_stroke 6 = .ok (.invokevirtual 10, 3) := by decide +kernel
theorem dL_stroke_9 : decode cL_stroke 9 = .ok (.ireturn, 1) := by decide +kernel
theorem dL_stroke_10 : decode cL_stroke 10 = .ok (.astore 5, 2) := by decide +kernel
theorem dL_stroke_12 : decode cL_stroke 12 = .ok (.ldc 18, 2) := by decide +kernel
theorem dL_stroke_14 : decode cL_stroke 14 = .ok (.ireturn, 1) := by decide +kernel
theorem dL_stroke_15 : decode cL_stroke 15 = .ok (.astore 5, 2) := by decide +kernel
theorem dL_stroke_17 : decode cL_stroke 17 = .ok (.ldc 21, 2) := by decide +kernel
theorem dL_stroke_19 : decode cL_stroke 19 = .ok (.ireturn, 1) := by decide +kernel
set_option maxRecDepth 20000 in
theorem ggL_sign_X8_sign : GoodIn wsL_sign wsX8_sign := goodIn_ca (goodIn_r _ [7, 8, 9, 10, 11, 12, 13, 14, 15, 16, 17, 18, 6, 19, 20, 21, 22, 23, 24, 25, 26, 27, 28, 29, 30, 31, 32, 33, 34, 35, 36, 37, 38] (by decide +kernel) (by decide +kernel)) (goodIn_sub (fun _ h => List.mem_cons_of_mem _ (List.mem_append_right _ h)) (by decide +kernel))
set_option maxRecDepth 20000 in
theorem gL_sign_X8_sign : GoodIn wsL_sign (wsV RL 22 RX8 yX8_sign wsX8_sign) := goodIn_app (goodIn_of _ (by decide +kernel)) ggL_sign_X8_sign
theorem dL_sign_0 : decode cL_sign 0 = .ok (.aload_n 0, 1) := by decide +kernel
theorem dL_sign_1 : decode cL_sign 1 = .ok (.invokevirtual 22, 3) := by decide +kernel
theorem dL_sign_4 : decode cL_sign 4 = .ok (.ireturn, 1) := by decide +kernel
theorem dL_sign_5 : decode cL_sign 5 = .ok (.astore_n 1, 1) := by decide +kernel
theorem dL_sign_6 : decode cL_sign 6 = .ok (.ldc 21, 2) := by decide +kernel
theorem dL_sign_8 : decode cL_sign 8 = .ok (.ireturn, 1) := by decide +kernel
set_option maxRecDepth 20000 in
theorem ggL_buy_X8_buy : GoodIn wsL_buy wsX8_buy := goodIn_ca (goodIn_ca (goodIn_ca (goodIn_r _ [11, 12, 13, 14, 15, 16, 17, 18, 19, 20, 21, 10, 22, 23, 24, 25, 26, 27, 28, 29, 30, 31, 32, 33, 34, 35, 36, 37, 38, 39] (by decide +kernel) (by decide +kernel)) (goodIn_sub (fun _ h => List.mem_cons_of_mem _ (List.mem_append_left _ (List.mem_append_left _ (List.mem_append_right _ h)))) (by decide +kernel))) (goodIn_sub (fun _ h => List.mem_cons_of_mem _ (List.mem_append_left _ (List.mem_append_right _ h))) (by decide +kernel))) (goodIn_sub (fun _ h => List.mem_cons_of_mem _ (List.mem_append_right _ h)) (by decide +kernel))
set_option maxRecDepth 20000 in
theorem gL_buy_X8_buy : GoodIn wsL_buy (wsV RL 26 RX8 yX8_buy wsX8_buy) := goodIn_app (goodIn_of _ (by decide +kernel)) ggL_buy_X8_buy
theorem dL_buy_0 : decode cL_buy 0 = .ok (.aload_n 0, 1) := by decide +kernel
theorem dL_buy_1 : decode cL_buy 1 = .ok (.iload_n 1, 1) := by decide +kernel
theorem dL_buy_2 : decode cL_buy 2 = .ok (.iload_n 2, 1) := by decide +kernel
theorem dL_buy_3 : decode cL_buy 3 = .ok (.invokevirtual 26, 3) := by decide +kernel
theorem dL_buy_6 : decode cL_buy 6 = .ok (.ireturn, 1) := by decide +kernel
theorem dL_buy_7 : decode cL_buy 7 = .ok (.astore_n 3, 1) := by decide +kernel
theorem dL_buy_8 : decode cL_buy 8 = .ok (.ldc 32, 2) := by decide +kernel
theorem dL_buy_10 : decode cL_buy 10 = .ok (.ireturn, 1) := by decide +kernel
theorem dL_buy_11 : decode cL_buy 11 = .ok (.astore_n 3, 1) := by decide +kernel
theorem dL_buy_12 : decode cL_buy 12 = .ok (.ldc 18, 2) := by decide +kernel
theorem dL_buy_14 : decode cL_buy 14 = .ok (.ireturn, 1) := by decide +kernel
theorem dL_buy_15 : decode cL_buy 15 = .ok (.astore_n 3, 1) := by decide +kernel
theorem dL_buy_16 : decode cL_buy 16 = .ok (.ldc 21, 2) := by decide +kernel
theorem dL_buy_18 : decode cL_buy 18 = .ok (.ireturn, 1) := by decide +kernel
set_option maxRecDepth 20000 in
theorem ggL_rise_X8_rise : GoodIn wsL_rise wsX8_rise := goodIn_ca (goodIn_ca (goodIn_r _ [9, 10, 11, 12, 13, 14, 15, 16, 17, 18, 8, 19, 20, 21, 22, 23, 24, 25, 26, 27, 28, 29, 30, 31, 32, 33, 34, 35, 36] (by decide +kernel) (by decide +kernel)) (goodIn_sub (fun _ h => List.mem_cons_of_mem _ (List.mem_append_left _ (List.mem_append_right _ h))) (by decide +kernel))) (goodIn_sub (fun _ h => List.mem_cons_of_mem _ (List.mem_append_right _ h)) (by decide +kernel))
set_option maxRecDepth 20000 in
theorem gL_rise_X8_rise : GoodIn wsL_rise (wsV RL 33 RX8 yX8_rise wsX8_rise) := goodIn_app (goodIn_of _ (by decide +kernel)) ggL_rise_X8_rise
theorem dL_rise_0 : decode cL_rise 0 = .ok (.aload_n 0, 1) := by decide +kernel
theorem dL_rise_1 : decode cL_rise 1 = .ok (.iload_n 1, 1) := by decide +kernel
theorem dL_rise_2 : decode cL_rise 2 = .ok (.iload_n 2, 1) := by decide +kernel
theorem dL_rise_3 : decode cL_rise 3 = .ok (.invokevirtual 33, 3) := by decide +kernel
theorem dL_rise_6 : decode cL_rise 6 = .ok (.ireturn, 1) := by decide +kernel
theorem dL_rise_7 : decode cL_rise 7 = .ok (.astore_n 3, 1) := by decide +kernel
theorem dL_rise_8 : decode cL_rise 8 = .ok (.ldc 32, 2) := by decide +kernel
theorem dL_rise_10 : decode cL_rise 10 = .ok (.ireturn, 1) := by decide +kernel
theorem dL_rise_11 : decode cL_rise 11 = .ok (.astore_n 3, 1) := by decide +kernel
theorem dL_rise_12 : decode cL_rise 12 = .ok (.ldc 18, 2) := by decide +kernel
theorem dL_rise_14 : decode cL_rise 14 = .ok (.ireturn, 1) := by decide +kernel
set_option maxRecDepth 20000 in
theorem ggL_style_X8_style : GoodIn wsL_style wsX8_style := goodIn_ca (goodIn_ca (goodIn_r _ [9, 10, 11, 12, 13, 14, 15, 16, 17, 18, 19, 8, 20, 21, 22, 23, 24, 25, 26, 27, 28, 29, 30, 31, 32, 33, 34, 35, 36, 37] (by decide +kernel) (by decide +kernel)) (goodIn_sub (fun _ h => List.mem_cons_of_mem _ (List.mem_append_left _ (List.mem_append_right _ h))) (by decide +kernel))) (goodIn_sub (fun _ h => List.mem_cons_of_mem _ (List.mem_append_right _ h)) (by decide +kernel))
set_option maxRecDepth 20000 in
theorem gL_style_X8_style : GoodIn wsL_style (wsV RL 36 RX8 yX8_style wsX8_style) := goodIn_app (goodIn_of _ (by decide +kernel)) ggL_style_X8_style
theorem dL_style_0 : decode cL_style 0 = .ok (.aload_n 0, 1) := by decide +kernel
theorem dL_style_1 : decode cL_style 1 = .ok (.iload_n 1, 1) := by decide +kernel
theorem dL_style_2 : decode cL_style 2 = .ok (.iload_n 2, 1) := by decide +kernel
theorem dL_style_3 : decode cL_style 3 = .ok (.iload_n 3, 1) := by decide +kernel
theorem dL_style_4 : decode cL_style 4 = .ok (.iload 4, 2) := by decide +kernel
theorem dL_style_6 : decode cL_style 6 = .ok (.invokevirtual 36, 3) := by decide +kernel
theorem dL_style_9 : decode cL_style 9 = .ok (.iconst 0, 1) := by decide +kernel
theorem dL_style_10 : decode cL_style 10 = .ok (.ireturn, 1) := by decide +kernel
theorem dL_style_11 : decode cL_style 11 = .ok (.astore 5, 2) := by decide +kernel
theorem dL_style_13 : decode cL_style 13 = .ok (.ldc 32, 2) := by decide +kernel
theorem dL_style_15 : decode cL_style 15 = .ok (.ireturn, 1) := by decide +kernel
theorem dL_style_16 : decode cL_style 16 = .ok (.astore 5, 2) := by decide +kernel
theorem dL_style_18 : decode cL_style 18 = .ok (.ldc 18, 2) := by decide +kernel
theorem dL_style_20 : decode cL_style 20 = .ok (.ireturn, 1) := by decide +kernel
set_option maxRecDepth 20000 in
theorem ggL_learn_X8_learn : GoodIn wsL_learn wsX8_learn := goodIn_ca (goodIn_ca (goodIn_r _ [9, 10, 11, 12, 13, 14, 15, 16, 17, 8, 18, 19, 20, 21, 22, 23, 24, 25, 26, 27, 28, 29, 30, 31, 32, 33, 34, 35, 36, 37, 38, 39, 40, 41, 42, 43, 44, 45, 46, 47, 48, 49] (by decide +kernel) (by decide +kernel)) (goodIn_sub (fun _ h => List.mem_cons_of_mem _ (List.mem_append_left _ (List.mem_append_right _ h))) (by decide +kernel))) (goodIn_sub (fun _ h => List.mem_cons_of_mem _ (List.mem_append_right _ h)) (by decide +kernel))
set_option maxRecDepth 20000 in
theorem gL_learn_X8_learn : GoodIn wsL_learn (wsV RL 40 RX8 yX8_learn wsX8_learn) := goodIn_app (goodIn_of _ (by decide +kernel)) ggL_learn_X8_learn
theorem dL_learn_0 : decode cL_learn 0 = .ok (.aload_n 0, 1) := by decide +kernel
theorem dL_learn_1 : decode cL_learn 1 = .ok (.iload_n 1, 1) := by decide +kernel
theorem dL_learn_2 : decode cL_learn 2 = .ok (.iload_n 2, 1) := by decide +kernel
theorem dL_learn_3 : decode cL_learn 3 = .ok (.invokevirtual 40, 3) := by decide +kernel
theorem dL_learn_6 : decode cL_learn 6 = .ok (.ireturn, 1) := by decide +kernel
theorem dL_learn_7 : decode cL_learn 7 = .ok (.astore_n 3, 1) := by decide +kernel
theorem dL_learn_8 : decode cL_learn 8 = .ok (.ldc 32, 2) := by decide +kernel
theorem dL_learn_10 : decode cL_learn 10 = .ok (.ireturn, 1) := by decide +kernel
theorem dL_learn_11 : decode cL_learn 11 = .ok (.astore_n 3, 1) := by decide +kernel
theorem dL_learn_12 : decode cL_learn 12 = .ok (.ldc 21, 2) := by decide +kernel
theorem dL_learn_14 : decode cL_learn 14 = .ok (.ireturn, 1) := by decide +kernel
set_option maxRecDepth 20000 in
theorem ggL_pass_X8_pass : GoodIn wsL_pass wsX8_pass := goodIn_ca (goodIn_ca (goodIn_r _ [9, 10, 11, 12, 13, 14, 15, 16, 17, 8, 18, 19, 20, 21, 22, 23, 24, 25, 26, 27, 28, 29, 30, 31, 32, 33, 34, 35, 36, 37, 38, 39, 40, 41, 42, 43, 44, 45] (by decide +kernel) (by decide +kernel)) (goodIn_sub (fun _ h => List.mem_cons_of_mem _ (List.mem_append_left _ (List.mem_append_right _ h))) (by decide +kernel))) (goodIn_sub (fun _ h => List.mem_cons_of_mem _ (List.mem_append_right _ h)) (by decide +kernel))
set_option maxRecDepth 20000 in
theorem gL_pass_X8_pass : GoodIn wsL_pass (wsV RL 43 RX8 yX8_pass wsX8_pass) := goodIn_app (goodIn_of _ (by decide +kernel)) ggL_pass_X8_pass
theorem dL_pass_0 : decode cL_pass 0 = .ok (.aload_n 0, 1) := by decide +kernel
theorem dL_pass_1 : decode cL_pass 1 = .ok (.iload_n 1, 1) := by decide +kernel
theorem dL_pass_2 : decode cL_pass 2 = .ok (.invokevirtual 43, 3) := by decide +kernel
theorem dL_pass_5 : decode cL_pass 5 = .ok (.ireturn, 1) := by decide +kernel
theorem dL_pass_6 : decode cL_pass 6 = .ok (.astore_n 2, 1) := by decide +kernel
theorem dL_pass_7 : decode cL_pass 7 = .ok (.ldc 18, 2) := by decide +kernel
theorem dL_pass_9 : decode cL_pass 9 = .ok (.ireturn, 1) := by decide +kernel
theorem dL_pass_10 : decode cL_pass 10 = .ok (.astore_n 2, 1) := by decide +kernel
theorem dL_pass_11 : decode cL_pass 11 = .ok (.ldc 21, 2) := by decide +kernel
theorem dL_pass_13 : decode cL_pass 13 = .ok (.ireturn, 1) := by decide +kernel
set_option maxRecDepth 20000 in
theorem ggL_duel_X8_duel : GoodIn wsL_duel wsX8_duel := goodIn_ca (goodIn_ca (goodIn_ca (goodIn_r _ [11, 12, 13, 14, 15, 16, 17, 18, 19, 20, 21, 22, 23, 24, 25, 26, 10, 27, 28, 29, 30, 31, 32, 33, 34, 35, 36, 37, 38, 39, 40, 41, 42, 43, 44, 45, 46, 47, 48, 49, 50, 51, 52, 53, 54, 55, 56, 57, 58, 59, 60, 61, 62, 63, 64, 65, 66, 67, 68, 69, 70, 71, 72, 73, 74, 75, 76, 77, 78, 79, 80, 81] (by decide +kernel) (by decide +kernel)) (goodIn_sub (fun _ h => List.mem_cons_of_mem _ (List.mem_append_left _ (List.mem_append_left _ (List.mem_append_right _ h)))) (by decide +kernel))) (goodIn_sub (fun _ h => List.mem_cons_of_mem _ (List.mem_append_left _ (List.mem_append_right _ h))) (by decide +kernel))) (goodIn_sub (fun _ h => List.mem_cons_of_mem _ (List.mem_append_right _ h)) (by decide +kernel))
set_option maxRecDepth 20000 in
theorem gL_duel_X8_duel : GoodIn wsL_duel (wsV RL 47 RX8 yX8_duel wsX8_duel) := goodIn_app (goodIn_of _ (by decide +kernel)) ggL_duel_X8_duel
theorem dL_duel_0 : decode cL_duel 0 = .ok (.aload_n 0, 1) := by decide +kernel
theorem dL_duel_1 : decode cL_duel 1 = .ok (.iload_n 1, 1) := by decide +kernel
theorem dL_duel_2 : decode cL_duel 2 = .ok (.iload_n 2, 1) := by decide +kernel
theorem dL_duel_3 : decode cL_duel 3 = .ok (.iload_n 3, 1) := by decide +kernel
theorem dL_duel_4 : decode cL_duel 4 = .ok (.iload 4, 2) := by decide +kernel
theorem dL_duel_6 : decode cL_duel 6 = .ok (.iload 5, 2) := by decide +kernel
theorem dL_duel_8 : decode cL_duel 8 = .ok (.iload 6, 2) := by decide +kernel
theorem dL_duel_10 : decode cL_duel 10 = .ok (.invokevirtual 47, 3) := by decide +kernel
theorem dL_duel_13 : decode cL_duel 13 = .ok (.ireturn, 1) := by decide +kernel
theorem dL_duel_14 : decode cL_duel 14 = .ok (.astore 7, 2) := by decide +kernel
theorem dL_duel_16 : decode cL_duel 16 = .ok (.ldc 32, 2) := by decide +kernel
theorem dL_duel_18 : decode cL_duel 18 = .ok (.ireturn, 1) := by decide +kernel
theorem dL_duel_19 : decode cL_duel 19 = .ok (.astore 7, 2) := by decide +kernel
theorem dL_duel_21 : decode cL_duel 21 = .ok (.ldc 18, 2) := by decide +kernel
theorem dL_duel_23 : decode cL_duel 23 = .ok (.ireturn, 1) := by decide +kernel
theorem dL_duel_24 : decode cL_duel 24 = .ok (.astore 7, 2) := by decide +kernel
theorem dL_duel_26 : decode cL_duel 26 = .ok (.ldc 21, 2) := by decide +kernel
theorem dL_duel_28 : decode cL_duel 28 = .ok (.ireturn, 1) := by decide +kernel
set_option maxRecDepth 20000 in
theorem ggL_hand_X8_hand : GoodIn wsL_hand wsX8_hand := goodIn_ca (goodIn_ca (goodIn_ca (goodIn_r _ [11, 12, 13, 14, 15, 16, 17, 18, 19, 20, 21, 22, 23, 24, 25, 26, 27, 28, 29, 30, 10, 31, 32, 33, 34, 35, 36, 37, 38, 39, 40, 41, 42, 43, 44, 45, 46, 47, 48, 49, 50, 51, 52, 53, 54, 55, 56, 57, 58, 59, 60, 61, 62, 63, 64, 65, 66, 67, 68, 69, 70, 71, 72, 73, 74, 75, 76, 77, 78, 79, 80, 81, 82, 83, 84, 85, 86, 87, 88, 89, 90, 91, 92, 93, 94, 95, 96, 97, 98, 99, 100, 101, 102, 103, 104, 105, 106, 107, 108, 109, 110, 111, 112, 113, 114, 115, 116, 117, 118, 119, 120, 121, 122, 123, 124, 125, 126, 127, 128, 129, 130, 131, 132, 133, 134, 135, 136, 137, 138, 139, 140, 141, 142, 143, 144, 145, 146, 147, 148, 149, 150, 151, 152, 153, 154, 155, 156, 157, 158, 159, 160, 161, 162, 163, 164, 165, 166, 167] (by decide +kernel) (by decide +kernel)) (goodIn_sub (fun _ h => List.mem_cons_of_mem _ (List.mem_append_left _ (List.mem_append_left _ (List.mem_append_right _ h)))) (by decide +kernel))) (goodIn_sub (fun _ h => List.mem_cons_of_mem _ (List.mem_append_left _ (List.mem_append_right _ h))) (by decide +kernel))) (goodIn_sub (fun _ h => List.mem_cons_of_mem _ (List.mem_append_right _ h)) (by decide +kernel))
set_option maxRecDepth 20000 in
theorem gL_hand_X8_hand : GoodIn wsL_hand (wsV RL 51 RX8 yX8_hand wsX8_hand) := goodIn_app (goodIn_of _ (by decide +kernel)) ggL_hand_X8_hand
theorem dL_hand_0 : decode cL_hand 0 = .ok (.aload_n 0, 1) := by decide +kernel
theorem dL_hand_1 : decode cL_hand 1 = .ok (.iload_n 1, 1) := by decide +kernel
theorem dL_hand_2 : decode cL_hand 2 = .ok (.iload_n 2, 1) := by decide +kernel
theorem dL_hand_3 : decode cL_hand 3 = .ok (.invokevirtual 51, 3) := by decide +kernel
theorem dL_hand_6 : decode cL_hand 6 = .ok (.ireturn, 1) := by decide +kernel
theorem dL_hand_7 : decode cL_hand 7 = .ok (.astore_n 3, 1) := by decide +kernel
theorem dL_hand_8 : decode cL_hand 8 = .ok (.ldc 32, 2) := by decide +kernel
theorem dL_hand_10 : decode cL_hand 10 = .ok (.ireturn, 1) := by decide +kernel
theorem dL_hand_11 : decode cL_hand 11 = .ok (.astore_n 3, 1) := by decide +kernel
theorem dL_hand_12 : decode cL_hand 12 = .ok (.ldc 18, 2) := by decide +kernel
theorem dL_hand_14 : decode cL_hand 14 = .ok (.ireturn, 1) := by decide +kernel
theorem dL_hand_15 : decode cL_hand 15 = .ok (.astore_n 3, 1) := by decide +kernel
theorem dL_hand_16 : decode cL_hand 16 = .ok (.ldc 21, 2) := by decide +kernel
theorem dL_hand_18 : decode cL_hand 18 = .ok (.ireturn, 1) := by decide +kernel
set_option maxRecDepth 20000 in
theorem ggL_look_X8_look : GoodIn wsL_look wsX8_look := goodIn_ca (goodIn_r _ [7, 8, 9, 10, 11, 12, 13, 14, 6, 15, 16, 17, 18, 19, 20, 21, 22, 23, 24, 25, 26, 27, 28, 29, 30, 31, 32, 33, 34, 35, 36, 37, 38, 39, 40, 41, 42, 43, 44, 45, 46] (by decide +kernel) (by decide +kernel)) (goodIn_sub (fun _ h => List.mem_cons_of_mem _ (List.mem_append_right _ h)) (by decide +kernel))
set_option maxRecDepth 20000 in
theorem gL_look_X8_look : GoodIn wsL_look (wsV RL 54 RX8 yX8_look wsX8_look) := goodIn_app (goodIn_of _ (by decide +kernel)) ggL_look_X8_look
theorem dL_look_0 : decode cL_look 0 = .ok (.aload_n 0, 1) := by decide +kernel
theorem dL_look_1 : decode cL_look 1 = .ok (.iload_n 1, 1) := by decide +kernel
theorem dL_look_2 : decode cL_look 2 = .ok (.iload_n 2, 1) := by decide +kernel
theorem dL_look_3 : decode cL_look 3 = .ok (.iload_n 3, 1) := by decide +kernel
theorem dL_look_4 : decode cL_look 4 = .ok (.invokevirtual 54, 3) := by decide +kernel
theorem dL_look_7 : decode cL_look 7 = .ok (.ifCond .eq 7, 3) := by decide +kernel
theorem dL_look_10 : decode cL_look 10 = .ok (.iconst 1, 1) := by decide +kernel
theorem dL_look_11 : decode cL_look 11 = .ok (.goto 4, 3) := by decide +kernel
theorem dL_look_14 : decode cL_look 14 = .ok (.iconst 0, 1) := by decide +kernel
theorem dL_look_15 : decode cL_look 15 = .ok (.ireturn, 1) := by decide +kernel
theorem dL_look_16 : decode cL_look 16 = .ok (.astore 4, 2) := by decide +kernel
theorem dL_look_18 : decode cL_look 18 = .ok (.ldc 32, 2) := by decide +kernel
theorem dL_look_20 : decode cL_look 20 = .ok (.ireturn, 1) := by decide +kernel
set_option maxRecDepth 20000 in
theorem ggL_appeal_X8_appeal : GoodIn wsL_appeal wsX8_appeal := goodIn_ca (goodIn_ca (goodIn_r _ [9, 10, 11, 12, 13, 14, 15, 16, 17, 18, 8, 19, 20, 21, 22, 23, 24, 25, 26, 27, 28, 29, 30, 31, 32, 33, 34, 35, 36, 37, 38, 39, 40, 41, 42, 43, 44, 45, 46, 47, 48, 49, 50, 51, 52, 53, 54, 55, 56, 57, 58, 59, 60, 61, 62, 63, 64, 65, 66, 67, 68, 69, 70, 71, 72, 73, 74, 75, 76, 77, 78, 79, 80, 81, 82, 83, 84, 85, 86, 87, 88, 89, 90, 91, 92, 93, 94, 95, 96, 97, 98, 99, 100, 101, 102, 103, 104, 105, 106, 107, 108, 109, 110, 111, 112, 113, 114] (by decide +kernel) (by decide +kernel)) (goodIn_sub (fun _ h => List.mem_cons_of_mem _ (List.mem_append_left _ (List.mem_append_right _ h))) (by decide +kernel))) (goodIn_sub (fun _ h => List.mem_cons_of_mem _ (List.mem_append_right _ h)) (by decide +kernel))
