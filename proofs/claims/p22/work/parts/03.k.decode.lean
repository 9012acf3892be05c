set_option maxRecDepth 20000 in
theorem gL_appeal_X8_appeal : GoodIn wsL_appeal (wsV RL 58 RX8 yX8_appeal wsX8_appeal) := goodIn_app (goodIn_of _ (by decide +kernel)) ggL_appeal_X8_appeal
theorem dL_appeal_0 : decode cL_appeal 0 = .ok (.aload_n 0, 1) := by decide +kernel
theorem dL_appeal_1 : decode cL_appeal 1 = .ok (.iload_n 1, 1) := by decide +kernel
theorem dL_appeal_2 : decode cL_appeal 2 = .ok (.iload_n 2, 1) := by decide +kernel
theorem dL_appeal_3 : decode cL_appeal 3 = .ok (.invokevirtual 58, 3) := by decide +kernel
theorem dL_appeal_6 : decode cL_appeal 6 = .ok (.ireturn, 1) := by decide +kernel
theorem dL_appeal_7 : decode cL_appeal 7 = .ok (.astore_n 3, 1) := by decide +kernel
theorem dL_appeal_8 : decode cL_appeal 8 = .ok (.ldc 32, 2) := by decide +kernel
theorem dL_appeal_10 : decode cL_appeal 10 = .ok (.ireturn, 1) := by decide +kernel
theorem dL_appeal_11 : decode cL_appeal 11 = .ok (.astore_n 3, 1) := by decide +kernel
theorem dL_appeal_12 : decode cL_appeal 12 = .ok (.ldc 21, 2) := by decide +kernel
theorem dL_appeal_14 : decode cL_appeal 14 = .ok (.ireturn, 1) := by decide +kernel
set_option maxRecDepth 20000 in
theorem ggL_prompt_X8_prompt : GoodIn wsL_prompt wsX8_prompt := goodIn_ca (goodIn_r _ [7, 8, 9, 10, 11, 12, 6, 13, 14, 15, 16, 17, 18, 19, 20, 21, 22, 23, 24, 25, 26, 27, 28, 29, 30, 31, 32, 33, 34, 35, 36, 37, 38, 39, 40] (by decide +kernel) (by decide +kernel)) (goodIn_sub (fun _ h => List.mem_cons_of_mem _ (List.mem_append_right _ h)) (by decide +kernel))
set_option maxRecDepth 20000 in
theorem gL_prompt_X8_prompt : GoodIn wsL_prompt (wsV RL 61 RX8 yX8_prompt wsX8_prompt) := goodIn_app (goodIn_of _ (by decide +kernel)) ggL_prompt_X8_prompt
theorem dL_prompt_0 : decode cL_prompt 0 = .ok (.aload_n 0, 1) := by decide +kernel
theorem dL_prompt_1 : decode cL_prompt 1 = .ok (.iload_n 1, 1) := by decide +kernel
theorem dL_prompt_2 : decode cL_prompt 2 = .ok (.iload_n 2, 1) := by decide +kernel
theorem dL_prompt_3 : decode cL_prompt 3 = .ok (.invokevirtual 61, 3) := by decide +kernel
theorem dL_prompt_6 : decode cL_prompt 6 = .ok (.ireturn, 1) := by decide +kernel
theorem dL_prompt_7 : decode cL_prompt 7 = .ok (.astore_n 3, 1) := by decide +kernel
theorem dL_prompt_8 : decode cL_prompt 8 = .ok (.ldc 32, 2) := by decide +kernel
theorem dL_prompt_10 : decode cL_prompt 10 = .ok (.ireturn, 1) := by decide +kernel
set_option maxRecDepth 20000 in
theorem ggL_mark_X8_mark : GoodIn wsL_mark wsX8_mark := goodIn_ca (goodIn_r _ [7, 8, 9, 10, 11, 12, 13, 14, 15, 16, 6, 17, 18, 19, 20, 21, 22, 23, 24, 25, 26, 27, 28, 29, 30, 31, 32, 33, 34, 35, 36, 37, 38, 39, 40, 41, 42, 43, 44, 45, 46, 47, 48, 49, 50, 51, 52, 53, 54, 55, 56, 57, 58, 59, 60, 61, 62, 63, 64, 65, 66, 67, 68, 69, 70, 71, 72, 73, 74, 75, 76, 77, 78, 79, 80, 81, 82, 83, 84, 85, 86, 87, 88, 89, 90, 91, 92, 93, 94, 95, 96, 97, 98, 99, 100, 101, 102, 103, 104, 105, 106, 107, 108, 109, 110, 111, 112, 113, 114, 115, 116, 117] (by decide +kernel) (by decide +kernel)) (goodIn_sub (fun _ h => List.mem_cons_of_mem _ (List.mem_append_right _ h)) (by decide +kernel))
set_option maxRecDepth 20000 in
theorem gL_mark_X8_mark : GoodIn wsL_mark (wsV RL 64 RX8 yX8_mark wsX8_mark) := goodIn_app (goodIn_of _ (by decide +kernel)) ggL_mark_X8_mark
theorem dL_mark_0 : decode cL_mark 0 = .ok (.aload_n 0, 1) := by decide +kernel
theorem dL_mark_1 : decode cL_mark 1 = .ok (.iload_n 1, 1) := by decide +kernel
theorem dL_mark_2 : decode cL_mark 2 = .ok (.iload_n 2, 1) := by decide +kernel
theorem dL_mark_3 : decode cL_mark 3 = .ok (.invokevirtual 64, 3) := by decide +kernel
theorem dL_mark_6 : decode cL_mark 6 = .ok (.freturn, 1) := by decide +kernel
theorem dL_mark_7 : decode cL_mark 7 = .ok (.astore_n 3, 1) := by decide +kernel
theorem dL_mark_8 : decode cL_mark 8 = .ok (.ldc 68, 2) := by decide +kernel
theorem dL_mark_10 : decode cL_mark 10 = .ok (.freturn, 1) := by decide +kernel
set_option maxRecDepth 20000 in
theorem ggL_part_X8_part : GoodIn wsL_part wsX8_part := goodIn_ca (goodIn_ca (goodIn_r _ [9, 10, 11, 12, 13, 14, 15, 16, 17, 18, 19, 20, 8, 21, 22, 23, 24, 25, 26, 27, 28, 29, 30, 31, 32, 33, 34, 35, 36, 37, 38, 39, 40, 41, 42, 43, 44, 45, 46, 47, 48, 49, 50, 51, 52, 53, 54, 55, 56, 57, 58, 59, 60, 61, 62, 63, 64, 65, 66, 67, 68, 69, 70, 71, 72, 73, 74, 75, 76, 77, 78, 79, 80, 81, 82, 83, 84, 85, 86, 87, 88] (by decide +kernel) (by decide +kernel)) (goodIn_sub (fun _ h => List.mem_cons_of_mem _ (List.mem_append_left _ (List.mem_append_right _ h))) (by decide +kernel))) (goodIn_sub (fun _ h => List.mem_cons_of_mem _ (List.mem_append_right _ h)) (by decide +kernel))
set_option maxRecDepth 20000 in
theorem gL_part_X8_part : GoodIn wsL_part (wsV RL 69 RX8 yX8_part wsX8_part) := goodIn_app (goodIn_of _ (by decide +kernel)) ggL_part_X8_part
theorem dL_part_0 : decode cL_part 0 = .ok (.aload_n 0, 1) := by decide +kernel
theorem dL_part_1 : decode cL_part 1 = .ok (.iload_n 1, 1) := by decide +kernel
theorem dL_part_2 : decode cL_part 2 = .ok (.iload_n 2, 1) := by decide +kernel
theorem dL_part_3 : decode cL_part 3 = .ok (.iload_n 3, 1) := by decide +kernel
theorem dL_part_4 : decode cL_part 4 = .ok (.invokevirtual 69, 3) := by decide +kernel
theorem dL_part_7 : decode cL_part 7 = .ok (.freturn, 1) := by decide +kernel
theorem dL_part_8 : decode cL_part 8 = .ok (.astore 4, 2) := by decide +kernel
theorem dL_part_10 : decode cL_part 10 = .ok (.ldc 68, 2) := by decide +kernel
theorem dL_part_12 : decode cL_part 12 = .ok (.freturn, 1) := by decide +kernel
theorem dL_part_13 : decode cL_part 13 = .ok (.astore 4, 2) := by decide +kernel
theorem dL_part_15 : decode cL_part 15 = .ok (.ldc 73, 2) := by decide +kernel
theorem dL_part_17 : decode cL_part 17 = .ok (.freturn, 1) := by decide +kernel
set_option maxRecDepth 20000 in
theorem ggL_marked_X8_marked : GoodIn wsL_marked wsX8_marked := goodIn_ca (goodIn_r _ [7, 8, 9, 10, 11, 12, 6, 13, 14, 15, 16, 17, 18, 19, 20, 21, 22, 23, 24, 25, 26, 27, 28, 29, 30, 31, 32, 33, 34, 35, 36, 37, 38, 39, 40, 41, 42, 43, 44, 45, 46, 47, 48, 49, 50, 51, 52, 53, 54, 55, 56, 57, 58, 59, 60, 61, 62, 63, 64, 65, 66, 67, 68, 69, 70, 71, 72, 73, 74, 75, 76, 77, 78, 79, 80, 81, 82, 83, 84, 85, 86, 87, 88, 89, 90, 91, 92, 93] (by decide +kernel) (by decide +kernel)) (goodIn_sub (fun _ h => List.mem_cons_of_mem _ (List.mem_append_right _ h)) (by decide +kernel))
set_option maxRecDepth 20000 in
theorem gL_marked_X8_marked : GoodIn wsL_marked (wsV RL 74 RX8 yX8_marked wsX8_marked) := goodIn_app (goodIn_of _ (by decide +kernel)) ggL_marked_X8_marked
theorem dL_marked_0 : decode cL_marked 0 = .ok (.aload_n 0, 1) := by decide +kernel
theorem dL_marked_1 : decode cL_marked 1 = .ok (.iload_n 1, 1) := by decide +kernel
theorem dL_marked_2 : decode cL_marked 2 = .ok (.iload_n 2, 1) := by decide +kernel
theorem dL_marked_3 : decode cL_marked 3 = .ok (.iload_n 3, 1) := by decide +kernel
theorem dL_marked_4 : decode cL_marked 4 = .ok (.invokevirtual 74, 3) := by decide +kernel
theorem dL_marked_7 : decode cL_marked 7 = .ok (.freturn, 1) := by decide +kernel
theorem dL_marked_8 : decode cL_marked 8 = .ok (.astore 4, 2) := by decide +kernel
theorem dL_marked_10 : decode cL_marked 10 = .ok (.ldc 68, 2) := by decide +kernel
theorem dL_marked_12 : decode cL_marked 12 = .ok (.freturn, 1) := by decide +kernel
set_option maxRecDepth 20000 in
theorem ggL_of_X8_of : GoodIn wsL_of wsX8_of := goodIn_ca (goodIn_ca (goodIn_r _ [9, 10, 11, 12, 13, 14, 15, 16, 17, 18, 19, 8, 20, 21, 22, 23, 24, 25, 26, 27, 28, 29, 30, 31, 32, 33, 34, 35, 36, 37, 38, 39, 40, 41, 42, 43, 44, 45, 46, 47, 48, 49, 50, 51, 52, 53, 54, 55, 56, 57, 58, 59, 60, 61, 62, 63, 64, 65, 66, 67, 68, 69, 70, 71, 72, 73, 74, 75, 76, 77, 78, 79, 80, 81, 82, 83, 84, 85, 86, 87, 88, 89, 90, 91, 92, 93, 94, 95, 96, 97, 98, 99, 100, 101, 102, 103, 104, 105, 106, 107, 108, 109, 110, 111, 112, 113, 114, 115, 116, 117, 118, 119] (by decide +kernel) (by decide +kernel)) (goodIn_sub (fun _ h => List.mem_cons_of_mem _ (List.mem_append_left _ (List.mem_append_right _ h))) (by decide +kernel))) (goodIn_sub (fun _ h => List.mem_cons_of_mem _ (List.mem_append_right _ h)) (by decide +kernel))
set_option maxRecDepth 20000 in
theorem gL_of_X8_of : GoodIn wsL_of (wsV RL 78 RX8 yX8_of wsX8_of) := goodIn_app (goodIn_of _ (by decide +kernel)) ggL_of_X8_of
theorem dL_of_0 : decode cL_of 0 = .ok (.aload_n 0, 1) := by decide +kernel
theorem dL_of_1 : decode cL_of 1 = .ok (.iload_n 1, 1) := by decide +kernel
theorem dL_of_2 : decode cL_of 2 = .ok (.iload_n 2, 1) := by decide +kernel
theorem dL_of_3 : decode cL_of 3 = .ok (.invokevirtual 78, 3) := by decide +kernel
theorem dL_of_6 : decode cL_of 6 = .ok (.ireturn, 1) := by decide +kernel
theorem dL_of_7 : decode cL_of 7 = .ok (.astore_n 3, 1) := by decide +kernel
theorem dL_of_8 : decode cL_of 8 = .ok (.ldc 32, 2) := by decide +kernel
theorem dL_of_10 : decode cL_of 10 = .ok (.ireturn, 1) := by decide +kernel
theorem dL_of_11 : decode cL_of 11 = .ok (.astore_n 3, 1) := by decide +kernel
theorem dL_of_12 : decode cL_of 12 = .ok (.ldc 18, 2) := by decide +kernel
theorem dL_of_14 : decode cL_of 14 = .ok (.ireturn, 1) := by decide +kernel
set_option maxRecDepth 20000 in
theorem ggL_paper_X8_paper : GoodIn wsL_paper wsX8_paper := goodIn_ca (goodIn_ca (goodIn_r _ [9, 10, 11, 12, 13, 14, 15, 16, 17, 18, 8, 19, 20, 21, 22, 23, 24, 25, 26, 27, 28, 29, 30, 31, 32, 33] (by decide +kernel) (by decide +kernel)) (goodIn_sub (fun _ h => List.mem_cons_of_mem _ (List.mem_append_left _ (List.mem_append_right _ h))) (by decide +kernel))) (goodIn_sub (fun _ h => List.mem_cons_of_mem _ (List.mem_append_right _ h)) (by decide +kernel))
set_option maxRecDepth 20000 in
theorem gL_paper_X8_paper : GoodIn wsL_paper (wsV RL 81 RX8 yX8_paper wsX8_paper) := goodIn_app (goodIn_of _ (by decide +kernel)) ggL_paper_X8_paper
theorem dL_paper_0 : decode cL_paper 0 = .ok (.aload_n 0, 1) := by decide +kernel
theorem dL_paper_1 : decode cL_paper 1 = .ok (.iload_n 1, 1) := by decide +kernel
theorem dL_paper_2 : decode cL_paper 2 = .ok (.iload_n 2, 1) := by decide +kernel
theorem dL_paper_3 : decode cL_paper 3 = .ok (.invokevirtual 81, 3) := by decide +kernel
theorem dL_paper_6 : decode cL_paper 6 = .ok (.ireturn, 1) := by decide +kernel
theorem dL_paper_7 : decode cL_paper 7 = .ok (.astore_n 3, 1) := by decide +kernel
theorem dL_paper_8 : decode cL_paper 8 = .ok (.ldc 32, 2) := by decide +kernel
theorem dL_paper_10 : decode cL_paper 10 = .ok (.ireturn, 1) := by decide +kernel
theorem dL_paper_11 : decode cL_paper 11 = .ok (.astore_n 3, 1) := by decide +kernel
theorem dL_paper_12 : decode cL_paper 12 = .ok (.ldc 18, 2) := by decide +kernel
theorem dL_paper_14 : decode cL_paper 14 = .ok (.ireturn, 1) := by decide +kernel
set_option maxRecDepth 20000 in
theorem ggL_won_X8_won : GoodIn wsL_won wsX8_won := goodIn_ca (goodIn_r _ [7, 8, 9, 10, 11, 12, 6, 13, 14, 15, 16, 17, 18, 19, 20, 21, 22, 23, 24, 25, 26, 27, 28, 29, 30, 31, 32, 33, 34, 35, 36, 37, 38, 39, 40, 41, 42, 43, 44, 45, 46, 47, 48, 49, 50, 51, 52, 53, 54, 55, 56, 57, 58, 59, 60, 61, 62, 63, 64, 65, 66, 67, 68, 69, 70, 71, 72, 73, 74, 75, 76, 77, 78, 79, 80, 81, 82, 83, 84, 85, 86, 87, 88, 89, 90, 91, 92, 93, 94, 95, 96, 97, 98, 99, 100, 101, 102, 103, 104, 105, 106, 107, 108, 109, 110, 111, 112] (by decide +kernel) (by decide +kernel)) (goodIn_sub (fun _ h => List.mem_cons_of_mem _ (List.mem_append_right _ h)) (by decide +kernel))
set_option maxRecDepth 20000 in
theorem gL_won_X8_won : GoodIn wsL_won (wsV RL 84 RX8 yX8_won wsX8_won) := goodIn_app (goodIn_of _ (by decide +kernel)) ggL_won_X8_won
theorem dL_won_0 : decode cL_won 0 = .ok (.aload_n 0, 1) := by decide +kernel
theorem dL_won_1 : decode cL_won 1 = .ok (.iload_n 1, 1) := by decide +kernel
theorem dL_won_2 : decode cL_won 2 = .ok (.invokevirtual 84, 3) := by decide +kernel
theorem dL_won_5 : decode cL_won 5 = .ok (.ireturn, 1) := by decide +kernel
theorem dL_won_6 : decode cL_won 6 = .ok (.astore_n 2, 1) := by decide +kernel
theorem dL_won_7 : decode cL_won 7 = .ok (.ldc 32, 2) := by decide +kernel
theorem dL_won_9 : decode cL_won 9 = .ok (.ireturn, 1) := by decide +kernel
set_option maxRecDepth 20000 in
theorem ggL_isDuel_L_of : GoodIn wsL_isDuel wsL_of := goodIn_ca (goodIn_ca (goodIn_r _ [7, 8, 9, 10, 1, 11, 12, 13, 14, 15, 16, 17, 18, 19, 20, 21, 22, 23, 24, 25, 26, 27, 28, 29, 30, 31, 32, 33, 34, 35, 36, 37, 38, 39, 40, 41, 42, 43, 44, 45, 46, 47, 48, 49, 50, 51, 52, 53, 54, 55, 56, 57, 58, 59, 60, 61, 62, 63, 64, 65, 66, 67, 68, 69, 70, 71, 72, 73, 74, 75, 76, 77, 78, 79, 80, 81, 82, 83, 84, 85, 86, 87, 88, 89, 90, 91, 92, 93, 94, 102, 103, 104, 105, 106, 107, 108, 109, 110, 111, 112, 113, 114, 115, 116, 117, 118, 119, 120, 121, 122, 123, 124, 125, 126, 127, 128, 129, 130, 131, 132] (by decide +kernel) (by decide +kernel)) (goodIn_sub (fun _ h => List.mem_cons_of_mem _ (List.mem_append_left _ (List.mem_append_right _ h))) (by decide +kernel))) (goodIn_sub (fun _ h => List.mem_cons_of_mem _ (List.mem_append_right _ h)) (by decide +kernel))
set_option maxRecDepth 20000 in
theorem gL_isDuel_L_of : GoodIn wsL_isDuel (va_wsS RL 87 yL_of wsL_of) := goodIn_app (goodIn_of _ (by decide +kernel)) ggL_isDuel_L_of
set_option maxRecDepth 20000 in
theorem ggL_isDuel_L_marked : GoodIn wsL_isDuel wsL_marked := goodIn_ca (goodIn_r _ [97, 8, 3, 98, 99, 100, 14, 101, 16, 17, 23, 24, 25, 26, 27, 37, 38, 39, 40, 41, 42, 43, 44, 45, 46, 47, 21, 22, 48, 49, 50, 51, 52, 53, 54, 55, 56, 57, 58, 59, 60, 61, 62, 63, 64, 65, 66, 67, 68, 69, 70, 71, 72, 73, 74, 75, 76, 77, 78, 79, 80, 81, 82, 112, 113, 114, 115, 116, 117, 118, 119, 120, 121, 102, 103, 104, 105, 106, 107, 108, 109, 110, 111, 126, 122, 123, 124, 125, 127, 128, 129, 130, 131, 132] (by decide +kernel) (by decide +kernel)) (goodIn_sub (fun _ h => List.mem_cons_of_mem _ (List.mem_append_left _ (List.mem_append_right _ h))) (by decide +kernel))
set_option maxRecDepth 20000 in
theorem gL_isDuel_L_marked : GoodIn wsL_isDuel (va_wsS RL 92 yL_marked wsL_marked) := goodIn_app (goodIn_of _ (by decide +kernel)) ggL_isDuel_L_marked
theorem dL_isDuel_0 : decode cL_isDuel 0 = .ok (.bipush 8, 2) := by decide +kernel
theorem dL_isDuel_2 : decode cL_isDuel 2 = .ok (.iload_n 3, 1) := by decide +kernel
theorem dL_isDuel_3 : decode cL_isDuel 3 = .ok (.imul, 1) := by decide +kernel
theorem dL_isDuel_4 : decode cL_isDuel 4 = .ok (.istore 4, 2) := by decide +kernel
theorem dL_isDuel_6 : decode cL_isDuel 6 = .ok (.aload_n 0, 1) := by decide +kernel
theorem dL_isDuel_7 : decode cL_isDuel 7 = .ok (.iload_n 3, 1) := by decide +kernel
theorem dL_isDuel_8 : decode cL_isDuel 8 = .ok (.iconst 1, 1) := by decide +kernel
theorem dL_isDuel_9 : decode cL_isDuel 9 = .ok (.invokestatic 87, 3) := by decide +kernel
theorem dL_isDuel_12 : decode cL_isDuel 12 = .ok (.istore 5, 2) := by decide +kernel
theorem dL_isDuel_14 : decode cL_isDuel 14 = .ok (.aload_n 0, 1) := by decide +kernel
theorem dL_isDuel_15 : decode cL_isDuel 15 = .ok (.iload_n 3, 1) := by decide +kernel
theorem dL_isDuel_16 : decode cL_isDuel 16 = .ok (.iconst 2, 1) := by decide +kernel
theorem dL_isDuel_17 : decode cL_isDuel 17 = .ok (.invokestatic 87, 3) := by decide +kernel
theorem dL_isDuel_20 : decode cL_isDuel 20 = .ok (.istore 6, 2) := by decide +kernel
theorem dL_isDuel_22 : decode cL_isDuel 22 = .ok (.aload_n 2, 1) := by decide +kernel
theorem dL_isDuel_23 : decode cL_isDuel 23 = .ok (.iload 4, 2) := by decide +kernel
theorem dL_isDuel_25 : decode cL_isDuel 25 = .ok (.iconst 5, 1) := by decide +kernel
theorem dL_isDuel_26 : decode cL_isDuel 26 = .ok (.iadd, 1) := by decide +kernel
theorem dL_isDuel_27 : decode cL_isDuel 27 = .ok (.iaload, 1) := by decide +kernel
theorem dL_isDuel_28 : decode cL_isDuel 28 = .ok (.iconst 2, 1) := by decide +kernel
theorem dL_isDuel_29 : decode cL_isDuel 29 = .ok (.idiv, 1) := by decide +kernel
theorem dL_isDuel_30 : decode cL_isDuel 30 = .ok (.istore 7, 2) := by decide +kernel
theorem dL_isDuel_32 : decode cL_isDuel 32 = .ok (.aload_n 2, 1) := by decide +kernel
theorem dL_isDuel_33 : decode cL_isDuel 33 = .ok (.iload 4, 2) := by decide +kernel
theorem dL_isDuel_35 : decode cL_isDuel 35 = .ok (.iconst 5, 1) := by decide +kernel
theorem dL_isDuel_36 : decode cL_isDuel 36 = .ok (.iadd, 1) := by decide +kernel
theorem dL_isDuel_37 : decode cL_isDuel 37 = .ok (.iaload, 1) := by decide +kernel
theorem dL_isDuel_38 : decode cL_isDuel 38 = .ok (.iconst 2, 1) := by decide +kernel
theorem dL_isDuel_39 : decode cL_isDuel 39 = .ok (.aload_n 2, 1) := by decide +kernel
theorem dL_isDuel_40 : decode cL_isDuel 40 = .ok (.iload 4, 2) := by decide +kernel
theorem dL_isDuel_42 : decode cL_isDuel 42 = .ok (.iconst 4, 1) := by decide +kernel
theorem dL_isDuel_43 : decode cL_isDuel 43 = .ok (.iadd, 1) := by decide +kernel
theorem dL_isDuel_44 : decode cL_isDuel 44 = .ok (.iaload, 1) := by decide +kernel
theorem dL_isDuel_45 : decode cL_isDuel 45 = .ok (.imul, 1) := by decide +kernel
theorem dL_isDuel_46 : decode cL_isDuel 46 = .ok (.if_icmp .ne 7, 3) := by decide +kernel
theorem dL_isDuel_49 : decode cL_isDuel 49 = .ok (.iconst 1, 1) := by decide +kernel
theorem dL_isDuel_50 : decode cL_isDuel 50 = .ok (.goto 4, 3) := by decide +kernel
theorem dL_isDuel_53 : decode cL_isDuel 53 = .ok (.iconst 0, 1) := by decide +kernel
theorem dL_isDuel_54 : decode cL_isDuel 54 = .ok (.istore 8, 2) := by decide +kernel
theorem dL_isDuel_56 : decode cL_isDuel 56 = .ok (.iload 8, 2) := by decide +kernel
theorem dL_isDuel_58 : decode cL_isDuel 58 = .ok (.ifCond .eq 10, 3) := by decide +kernel
theorem dL_isDuel_61 : decode cL_isDuel 61 = .ok (.iload 5, 2) := by decide +kernel
theorem dL_isDuel_63 : decode cL_isDuel 63 = .ok (.iload 6, 2) := by decide +kernel
theorem dL_isDuel_65 : decode cL_isDuel 65 = .ok (.if_icmp .ne 7, 3) := by decide +kernel
theorem dL_isDuel_68 : decode cL_isDuel 68 = .ok (.iconst (-1), 1) := by decide +kernel
theorem dL_isDuel_69 : decode cL_isDuel 69 = .ok (.goto 23, 3) := by decide +kernel
theorem dL_isDuel_72 : decode cL_isDuel 72 = .ok (.iload 5, 2) := by decide +kernel
theorem dL_isDuel_74 : decode cL_isDuel 74 = .ok (.iload 6, 2) := by decide +kernel
theorem dL_isDuel_76 : decode cL_isDuel 76 = .ok (.if_icmp .le 10, 3) := by decide +kernel
theorem dL_isDuel_79 : decode cL_isDuel 79 = .ok (.aload_n 2, 1) := by decide +kernel
theorem dL_isDuel_80 : decode cL_isDuel 80 = .ok (.iload 4, 2) := by decide +kernel
theorem dL_isDuel_82 : decode cL_isDuel 82 = .ok (.iaload, 1) := by decide +kernel
theorem dL_isDuel_83 : decode cL_isDuel 83 = .ok (.goto 9, 3) := by decide +kernel
theorem dL_isDuel_86 : decode cL_isDuel 86 = .ok (.aload_n 2, 1) := by decide +kernel
theorem dL_isDuel_87 : decode cL_isDuel 87 = .ok (.iload 4, 2) := by decide +kernel
theorem dL_isDuel_89 : decode cL_isDuel 89 = .ok (.iconst 1, 1) := by decide +kernel
theorem dL_isDuel_90 : decode cL_isDuel 90 = .ok (.iadd, 1) := by decide +kernel
theorem dL_isDuel_91 : decode cL_isDuel 91 = .ok (.iaload, 1) := by decide +kernel
theorem dL_isDuel_92 : decode cL_isDuel 92 = .ok (.istore 9, 2) := by decide +kernel
theorem dL_isDuel_94 : decode cL_isDuel 94 = .ok (.aload_n 0, 1) := by decide +kernel
theorem dL_isDuel_95 : decode cL_isDuel 95 = .ok (.iload_n 3, 1) := by decide +kernel
theorem dL_isDuel_96 : decode cL_isDuel 96 = .ok (.iconst 0, 1) := by decide +kernel
theorem dL_isDuel_97 : decode cL_isDuel 97 = .ok (.invokestatic 87, 3) := by decide +kernel
theorem dL_isDuel_100 : decode cL_isDuel 100 = .ok (.aload_n 2, 1) := by decide +kernel
theorem dL_isDuel_101 : decode cL_isDuel 101 = .ok (.iload 4, 2) := by decide +kernel
theorem dL_isDuel_103 : decode cL_isDuel 103 = .ok (.iconst 5, 1) := by decide +kernel
theorem dL_isDuel_104 : decode cL_isDuel 104 = .ok (.iadd, 1) := by decide +kernel
theorem dL_isDuel_105 : decode cL_isDuel 105 = .ok (.iaload, 1) := by decide +kernel
theorem dL_isDuel_106 : decode cL_isDuel 106 = .ok (.if_icmp .ne 82, 3) := by decide +kernel
theorem dL_isDuel_109 : decode cL_isDuel 109 = .ok (.iload 5, 2) := by decide +kernel
theorem dL_isDuel_111 : decode cL_isDuel 111 = .ok (.ifCond .lt 77, 3) := by decide +kernel
theorem dL_isDuel_114 : decode cL_isDuel 114 = .ok (.iload 6, 2) := by decide +kernel
theorem dL_isDuel_116 : decode cL_isDuel 116 = .ok (.ifCond .lt 72, 3) := by decide +kernel
theorem dL_isDuel_119 : decode cL_isDuel 119 = .ok (.iload 5, 2) := by decide +kernel
theorem dL_isDuel_121 : decode cL_isDuel 121 = .ok (.iload 6, 2) := by decide +kernel
theorem dL_isDuel_123 : decode cL_isDuel 123 = .ok (.iadd, 1) := by decide +kernel
theorem dL_isDuel_124 : decode cL_isDuel 124 = .ok (.iload 7, 2) := by decide +kernel
theorem dL_isDuel_126 : decode cL_isDuel 126 = .ok (.if_icmp .gt 62, 3) := by decide +kernel
theorem dL_isDuel_129 : decode cL_isDuel 129 = .ok (.aload_n 0, 1) := by decide +kernel
theorem dL_isDuel_130 : decode cL_isDuel 130 = .ok (.iload_n 3, 1) := by decide +kernel
theorem dL_isDuel_131 : decode cL_isDuel 131 = .ok (.iconst 3, 1) := by decide +kernel
theorem dL_isDuel_132 : decode cL_isDuel 132 = .ok (.invokestatic 87, 3) := by decide +kernel
theorem dL_isDuel_135 : decode cL_isDuel 135 = .ok (.iload 9, 2) := by decide +kernel
theorem dL_isDuel_137 : decode cL_isDuel 137 = .ok (.if_icmp .ne 51, 3) := by decide +kernel
theorem dL_isDuel_140 : decode cL_isDuel 140 = .ok (.aload_n 0, 1) := by decide +kernel
theorem dL_isDuel_141 : decode cL_isDuel 141 = .ok (.iload_n 3, 1) := by decide +kernel
theorem dL_isDuel_142 : decode cL_isDuel 142 = .ok (.iconst 4, 1) := by decide +kernel
theorem dL_isDuel_143 : decode cL_isDuel 143 = .ok (.invokestatic 87, 3) := by decide +kernel
theorem dL_isDuel_146 : decode cL_isDuel 146 = .ok (.aload_n 2, 1) := by decide +kernel
theorem dL_isDuel_147 : decode cL_isDuel 147 = .ok (.iload 4, 2) := by decide +kernel
theorem dL_isDuel_149 : decode cL_isDuel 149 = .ok (.bipush 6, 2) := by decide +kernel
theorem dL_isDuel_151 : decode cL_isDuel 151 = .ok (.iadd, 1) := by decide +kernel
theorem dL_isDuel_152 : decode cL_isDuel 152 = .ok (.iaload, 1) := by decide +kernel
theorem dL_isDuel_153 : decode cL_isDuel 153 = .ok (.if_icmp .ne 35, 3) := by decide +kernel
theorem dL_isDuel_156 : decode cL_isDuel 156 = .ok (.aload_n 0, 1) := by decide +kernel
theorem dL_isDuel_157 : decode cL_isDuel 157 = .ok (.iload_n 3, 1) := by decide +kernel
theorem dL_isDuel_158 : decode cL_isDuel 158 = .ok (.iconst 5, 1) := by decide +kernel
theorem dL_isDuel_159 : decode cL_isDuel 159 = .ok (.invokestatic 87, 3) := by decide +kernel
theorem dL_isDuel_162 : decode cL_isDuel 162 = .ok (.aload_n 2, 1) := by decide +kernel
theorem dL_isDuel_163 : decode cL_isDuel 163 = .ok (.iload 4, 2) := by decide +kernel
theorem dL_isDuel_165 : decode cL_isDuel 165 = .ok (.bipush 7, 2) := by decide +kernel
theorem dL_isDuel_167 : decode cL_isDuel 167 = .ok (.iadd, 1) := by decide +kernel
theorem dL_isDuel_168 : decode cL_isDuel 168 = .ok (.iaload, 1) := by decide +kernel
theorem dL_isDuel_169 : decode cL_isDuel 169 = .ok (.if_icmp .ne 19, 3) := by decide +kernel
theorem dL_isDuel_172 : decode cL_isDuel 172 = .ok (.aload_n 0, 1) := by decide +kernel
theorem dL_isDuel_173 : decode cL_isDuel 173 = .ok (.iload_n 3, 1) := by decide +kernel
theorem dL_isDuel_174 : decode cL_isDuel 174 = .ok (.bipush 6, 2) := by decide +kernel
theorem dL_isDuel_176 : decode cL_isDuel 176 = .ok (.invokestatic 87, 3) := by decide +kernel
theorem dL_isDuel_179 : decode cL_isDuel 179 = .ok (.ldc 18, 2) := by decide +kernel
theorem dL_isDuel_181 : decode cL_isDuel 181 = .ok (.if_icmp .ne 7, 3) := by decide +kernel
theorem dL_isDuel_184 : decode cL_isDuel 184 = .ok (.iconst 1, 1) := by decide +kernel
theorem dL_isDuel_185 : decode cL_isDuel 185 = .ok (.goto 4, 3) := by decide +kernel
theorem dL_isDuel_188 : decode cL_isDuel 188 = .ok (.iconst 0, 1) := by decide +kernel
