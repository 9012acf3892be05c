theorem dL_look_18 : decode cL_look 18 = .ok (.ldc 32, 2) := by decide +kernel
theorem dL_look_20 : decode cL_look 20 = .ok (.ireturn, 1) := by decide +kernel
set_option maxRecDepth 20000 in
theorem ggL_appeal_X8_appeal : GoodIn wsL_appeal wsX8_appeal := goodIn_ca (goodIn_ca (goodIn_r _ [9, 10, 11, 12, 13, 14, 15, 16, 17, 18, 8, 19, 20, 21, 22, 23, 24, 25, 26, 27, 28, 29, 30, 31, 32, 33, 34, 35, 36, 37, 38, 39, 40, 41, 42, 43, 44, 45, 46, 47, 48, 49, 50, 51, 52, 53, 54, 55, 56, 57, 58, 59, 60, 61, 62, 63, 64, 65, 66, 67, 68, 69, 70, 71, 72, 73, 74, 75, 76, 77, 78, 79, 80, 81, 82, 83, 84, 85, 86, 87, 88, 89, 90, 91, 92, 93, 94, 95, 96, 97, 98, 99, 100, 101, 102, 103, 104, 105, 106, 107, 108, 109, 110, 111, 112, 113, 114] (by decide +kernel) (by decide +kernel)) (goodIn_sub (fun _ h => List.mem_cons_of_mem _ (List.mem_append_left _ (List.mem_append_right _ h))) (by decide +kernel))) (goodIn_sub (fun _ h => List.mem_cons_of_mem _ (List.mem_append_right _ h)) (by decide +kernel))
set_option maxRecDepth 20000 in
theorem gL_appeal_X8_appeal : GoodIn wsL_appeal (wsV RL 58 RX8 yX8_appeal wsX8_appeal) := goodIn_app (goodIn_of _ (by decide +kernel)) ggL_appeal_X8_appeal
theorem dL_appeal_0 : decode cL_appeal 0 = .ok (.aload_n 0, 1) := by decide +kernel
theorem dL_appeal_1 : decode cL_appeal 1 = .ok (.iload_n 1, 1) := by decide +kernel
theorem dL_appeal_2 : decode cL_appeal 2 = .ok (.iload_n 2, 1) := by decide +kernel
theorem dL_appeal_3 : decode cL_appeal 3 = .ok (.invokevirtual 58, 3) := by decide +kernel
theorem dL_appeal_6 : decode cL_appeal 6 = .ok (.ireturn, 1) := by decide +kernel
theorem dL_appeal_7 : decode cL_appeal 7 = .ok (.astore_n 3, 1) := by decide +kernel
theorem dL_appeal_8 : decode cL_appeal 8 = .ok (.ldc 32, 2) := by decide +kernel
theorem dL_appeal_10 : decode cL_appeal 10 = .ok (.ireturn, 1) := by decide +kernel
theorem dL_appeal_11 : decode cL_appeal 11 = .ok (.astore_n 3, 1) := by decide +kernel
theorem dL_appeal_12 : decode cL_appeal 12 = .ok (.ldc 21, 2) := by decide +kernel
theorem dL_appeal_14 : decode cL_appeal 14 = .ok (.ireturn, 1) := by decide +kernel
set_option maxRecDepth 20000 in
theorem ggL_prompt_X8_prompt : GoodIn wsL_prompt wsX8_prompt := goodIn_ca (goodIn_r _ [7, 8, 9, 10, 11, 12, 6, 13, 14, 15, 16, 17, 18, 19, 20, 21, 22, 23, 24, 25, 26, 27, 28, 29, 30, 31, 32, 33, 34, 35, 36, 37, 38, 39, 40] (by decide +kernel) (by decide +kernel)) (goodIn_sub (fun _ h => List.mem_cons_of_mem _ (List.mem_append_right _ h)) (by decide +kernel))
set_option maxRecDepth 20000 in
theorem gL_prompt_X8_prompt : GoodIn wsL_prompt (wsV RL 61 RX8 yX8_prompt wsX8_prompt) := goodIn_app (goodIn_of _ (by decide +kernel)) ggL_prompt_X8_prompt
theorem dL_prompt_0 : decode cL_prompt 0 = .ok (.aload_n 0, 1) := by decide +kernel
theorem dL_prompt_1 : decode cL_prompt 1 = .ok (.iload_n 1, 1) := by decide +kernel
theorem dL_prompt_2 : decode cL_prompt 2 = .ok (.iload_n 2, 1) := by decide +kernel
theorem dL_prompt_3 : decode cL_prompt 3 = .ok (.invokevirtual 61, 3) := by decide +kernel
theorem dL_prompt_6 : decode cL_prompt 6 = .ok (.ireturn, 1) := by decide +kernel
theorem dL_prompt_7 : decode cL_prompt 7 = .ok (.astore_n 3, 1) := by decide +kernel
theorem dL_prompt_8 : decode cL_prompt 8 = .ok (.ldc 32, 2) := by decide +kernel
theorem dL_prompt_10 : decode cL_prompt 10 = .ok (.ireturn, 1) := by decide +kernel
set_option maxRecDepth 20000 in
theorem ggL_mark_X8_mark : GoodIn wsL_mark wsX8_mark := goodIn_ca (goodIn_r _ [7, 8, 9, 10, 11, 12, 13, 14, 15, 16, 6, 17, 18, 19, 20, 21, 22, 23, 24, 25, 26, 27, 28, 29, 30, 31, 32, 33, 34, 35, 36, 37, 38, 39, 40, 41, 42, 43, 44, 45, 46, 47, 48, 49, 50, 51, 52, 53, 54, 55, 56, 57, 58, 59, 60, 61, 62, 63, 64, 65, 66, 67, 68, 69, 70, 71, 72, 73, 74, 75, 76, 77, 78, 79, 80, 81, 82, 83, 84, 85, 86, 87, 88, 89, 90, 91, 92, 93, 94, 95, 96, 97, 98, 99, 100, 101, 102, 103, 104, 105, 106, 107, 108, 109, 110, 111, 112, 113, 114, 115, 116, 117] (by decide +kernel) (by decide +kernel)) (goodIn_sub (fun _ h => List.mem_cons_of_mem _ (List.mem_append_right _ h)) (by decide +kernel))
set_option maxRecDepth 20000 in
theorem gL_mark_X8_mark : GoodIn wsL_mark (wsV RL 64 RX8 yX8_mark wsX8_mark) := goodIn_app (goodIn_of _ (by decide +kernel)) ggL_mark_X8_mark
theorem dL_mark_0 : decode cL_mark 0 = .ok (.aload_n 0, 1) := by decide +kernel
theorem dL_mark_1 : decode cL_mark 1 = .ok (.iload_n 1, 1) := by decide +kernel
theorem dL_mark_2 : decode cL_mark 2 = .ok (.iload_n 2, 1) := by decide +kernel
theorem dL_mark_3 : decode cL_mark 3 = .ok (.invokevirtual 64, 3) := by decide +kernel
theorem dL_mark_6 : decode cL_mark 6 = .ok (.freturn, 1) := by decide +kernel
theorem dL_mark_7 : decode cL_mark 7 = .ok (.astore_n 3, 1) := by decide +kernel
theorem dL_mark_8 : decode cL_mark 8 = .ok (.ldc 68, 2) := by decide +kernel
theorem dL_mark_10 : decode cL_mark 10 = .ok (.freturn, 1) := by decide +kernel
set_option maxRecDepth 20000 in
theorem ggL_part_X8_part : GoodIn wsL_part wsX8_part := goodIn_ca (goodIn_ca (goodIn_r _ [9, 10, 11, 12, 13, 14, 15, 16, 17, 18, 19, 20, 8, 21, 22, 23, 24, 25, 26, 27, 28, 29, 30, 31, 32, 33, 34, 35, 36, 37, 38, 39, 40, 41, 42, 43, 44, 45, 46, 47, 48, 49, 50, 51, 52, 53, 54, 55, 56, 57, 58, 59, 60, 61, 62, 63, 64, 65, 66, 67, 68, 69, 70, 71, 72, 73, 74, 75, 76, 77, 78, 79, 80, 81, 82, 83, 84, 85, 86, 87, 88] (by decide +kernel) (by decide +kernel)) (goodIn_sub (fun _ h => List.mem_cons_of_mem _ (List.mem_append_left _ (List.mem_append_right _ h))) (by decide +kernel))) (goodIn_sub (fun _ h => List.mem_cons_of_mem _ (List.mem_append_right _ h)) (by decide +kernel))
set_option maxRecDepth 20000 in
theorem gL_part_X8_part : GoodIn wsL_part (wsV RL 69 RX8 yX8_part wsX8_part) := goodIn_app (goodIn_of _ (by decide +kernel)) ggL_part_X8_part
theorem dL_part_0 : decode cL_part 0 = .ok (.aload_n 0, 1) := by decide +kernel
theorem dL_part_1 : decode cL_part 1 = .ok (.iload_n 1, 1) := by decide +kernel
theorem dL_part_2 : decode cL_part 2 = .ok (.iload_n 2, 1) := by decide +kernel
theorem dL_part_3 : decode cL_part 3 = .ok (.iload_n 3, 1) := by decide +kernel
theorem dL_part_4 : decode cL_part 4 = .ok (.invokevirtual 69, 3) := by decide +kernel
theorem dL_part_7 : decode cL_part 7 = .ok (.freturn, 1) := by decide +kernel
theorem dL_part_8 : decode cL_part 8 = .ok (.astore 4, 2) := by decide +kernel
theorem dL_part_10 : decode cL_part 10 = .ok (.ldc 68, 2) := by decide +kernel
theorem dL_part_12 : decode cL_part 12 = .ok (.freturn, 1) := by decide +kernel
theorem dL_part_13 : decode cL_part 13 = .ok (.astore 4, 2) := by decide +kernel
theorem dL_part_15 : decode cL_part 15 = .ok (.ldc 73, 2) := by decide +kernel
theorem dL_part_17 : decode cL_part 17 = .ok (.freturn, 1) := by decide +kernel
set_option maxRecDepth 20000 in
theorem ggL_marked_X8_marked : GoodIn wsL_marked wsX8_marked := goodIn_ca (goodIn_r _ [7, 8, 9, 10, 11, 12, 6, 13, 14, 15, 16, 17, 18, 19, 20, 21, 22, 23, 24, 25, 26, 27, 28, 29, 30, 31, 32, 33, 34, 35, 36, 37, 38, 39, 40, 41, 42, 43, 44, 45, 46, 47, 48, 49, 50, 51, 52, 53, 54, 55, 56, 57, 58, 59, 60, 61, 62, 63, 64, 65, 66, 67, 68, 69, 70, 71, 72, 73, 74, 75, 76, 77, 78, 79, 80, 81, 82, 83, 84, 85, 86, 87, 88, 89, 90, 91, 92, 93] (by decide +kernel) (by decide +kernel)) (goodIn_sub (fun _ h => List.mem_cons_of_mem _ (List.mem_append_right _ h)) (by decide +kernel))
set_option maxRecDepth 20000 in
theorem gL_marked_X8_marked : GoodIn wsL_marked (wsV RL 74 RX8 yX8_marked wsX8_marked) := goodIn_app (goodIn_of _ (by decide +kernel)) ggL_marked_X8_marked
theorem dL_marked_0 : decode cL_marked 0 = .ok (.aload_n 0, 1) := by decide +kernel
theorem dL_marked_1 : decode cL_marked 1 = .ok (.iload_n 1, 1) := by decide +kernel
theorem dL_marked_2 : decode cL_marked 2 = .ok (.iload_n 2, 1) := by decide +kernel
theorem dL_marked_3 : decode cL_marked 3 = .ok (.iload_n 3, 1) := by decide +kernel
theorem dL_marked_4 : decode cL_marked 4 = .ok (.invokevirtual 74, 3) := by decide +kernel
theorem dL_marked_7 : decode cL_marked 7 = .ok (.freturn, 1) := by decide +kernel
theorem dL_marked_8 : decode cL_marked 8 = .ok (.astore 4, 2) := by decide +kernel
theorem dL_marked_10 : decode cL_marked 10 = .ok (.ldc 68, 2) := by decide +kernel
theorem dL_marked_12 : decode cL_marked 12 = .ok (.freturn, 1) := by decide +kernel
set_option maxRecDepth 20000 in
theorem ggL_of_X8_of : GoodIn wsL_of wsX8_of := goodIn_ca (goodIn_ca (goodIn_r _ [9, 10, 11, 12, 13, 14, 15, 16, 17, 18, 19, 8, 20, 21, 22, 23, 24, 25, 26, 27, 28, 29, 30, 31, 32, 33, 34, 35, 36, 37, 38, 39, 40, 41, 42, 43, 44, 45, 46, 47, 48, 49, 50, 51, 52, 53, 54, 55, 56, 57, 58, 59, 60, 61, 62, 63, 64, 65, 66, 67, 68, 69, 70, 71, 72, 73, 74, 75, 76, 77, 78, 79, 80, 81, 82, 83, 84, 85, 86, 87, 88, 89, 90, 91, 92, 93, 94, 95, 96, 97, 98, 99, 100, 101, 102, 103, 104, 105, 106, 107, 108, 109, 110, 111, 112, 113, 114, 115, 116, 117, 118, 119] (by decide +kernel) (by decide +kernel)) (goodIn_sub (fun _ h => List.mem_cons_of_mem _ (List.mem_append_left _ (List.mem_append_right _ h))) (by decide +kernel))) (goodIn_sub (fun _ h => List.mem_cons_of_mem _ (List.mem_append_right _ h)) (by decide +kernel))
set_option maxRecDepth 20000 in
theorem gL_of_X8_of : GoodIn wsL_of (wsV RL 78 RX8 yX8_of wsX8_of) := goodIn_app (goodIn_of _ (by decide +kernel)) ggL_of_X8_of
theorem dL_of_0 : decode cL_of 0 = .ok (.aload_n 0, 1) := by decide +kernel
theorem dL_of_1 : decode cL_of 1 = .ok (.iload_n 1, 1) := by decide +kernel
theorem dL_of_2 : decode cL_of 2 = .ok (.iload_n 2, 1) := by decide +kernel
theorem dL_of_3 : decode cL_of 3 = .ok (.invokevirtual 78, 3) := by decide +kernel
theorem dL_of_6 : decode cL_of 6 = .ok (.ireturn, 1) := by decide +kernel
theorem dL_of_7 : decode cL_of 7 = .ok (.astore_n 3, 1) := by decide +kernel
theorem dL_of_8 : decode cL_of 8 = .ok (.ldc 32, 2) := by decide +kernel
theorem dL_of_10 : decode cL_of 10 = .ok (.ireturn, 1) := by decide +kernel
theorem dL_of_11 : decode cL_of 11 = .ok (.astore_n 3, 1) := by decide +kernel
theorem dL_of_12 : decode cL_of 12 = .ok (.ldc 18, 2) := by decide +kernel
theorem dL_of_14 : decode cL_of 14 = .ok (.ireturn, 1) := by decide +kernel
set_option maxRecDepth 20000 in
theorem ggL_paper_X8_paper : GoodIn wsL_paper wsX8_paper := goodIn_ca (goodIn_ca (goodIn_r _ [9, 10, 11, 12, 13, 14, 15, 16, 17, 18, 8, 19, 20, 21, 22, 23, 24, 25, 26, 27, 28, 29, 30, 31, 32, 33] (by decide +kernel) (by decide +kernel)) (goodIn_sub (fun _ h => List.mem_cons_of_mem _ (List.mem_append_left _ (List.mem_append_right _ h))) (by decide +kernel))) (goodIn_sub (fun _ h => List.mem_cons_of_mem _ (List.mem_append_right _ h)) (by decide +kernel))
set_option maxRecDepth 20000 in
theorem gL_paper_X8_paper : GoodIn wsL_paper (wsV RL 81 RX8 yX8_paper wsX8_paper) := goodIn_app (goodIn_of _ (by decide +kernel)) ggL_paper_X8_paper
theorem dL_paper_0 : decode cL_paper 0 = .ok (.aload_n 0, 1) := by decide +kernel
theorem dL_paper_1 : decode cL_paper 1 = .ok (.iload_n 1, 1) := by decide +kernel
theorem dL_paper_2 : decode cL_paper 2 = .ok (.iload_n 2, 1) := by decide +kernel
theorem dL_paper_3 : decode cL_paper 3 = .ok (.invokevirtual 81, 3) := by decide +kernel
theorem dL_paper_6 : decode cL_paper 6 = .ok (.ireturn, 1) := by decide +kernel
theorem dL_paper_7 : decode cL_paper 7 = .ok (.astore_n 3, 1) := by decide +kernel
theorem dL_paper_8 : decode cL_paper 8 = .ok (.ldc 32, 2) := by decide +kernel
theorem dL_paper_10 : decode cL_paper 10 = .ok (.ireturn, 1) := by decide +kernel
theorem dL_paper_11 : decode cL_paper 11 = .ok (.astore_n 3, 1) := by decide +kernel
theorem dL_paper_12 : decode cL_paper 12 = .ok (.ldc 18, 2) := by decide +kernel
theorem dL_paper_14 : decode cL_paper 14 = .ok (.ireturn, 1) := by decide +kernel
set_option maxRecDepth 20000 in
theorem ggL_won_X8_won : GoodIn wsL_won wsX8_won := goodIn_ca (goodIn_r _ [7, 8, 9, 10, 11, 12, 6, 13, 14, 15, 16, 17, 18, 19, 20, 21, 22, 23, 24, 25, 26, 27, 28, 29, 30, 31, 32, 33, 34, 35, 36, 37, 38, 39, 40, 41, 42, 43, 44, 45, 46, 47, 48, 49, 50, 51, 52, 53, 54, 55, 56, 57, 58, 59, 60, 61, 62, 63, 64, 65, 66, 67, 68, 69, 70, 71, 72, 73, 74, 75, 76, 77, 78, 79, 80, 81, 82, 83, 84, 85, 86, 87, 88, 89, 90, 91, 92, 93, 94, 95, 96, 97, 98, 99, 100, 101, 102, 103, 104, 105, 106, 107, 108, 109, 110, 111, 112] (by decide +kernel) (by decide +kernel)) (goodIn_sub (fun _ h => List.mem_cons_of_mem _ (List.mem_append_right _ h)) (by decide +kernel))
set_option maxRecDepth 20000 in
theorem gL_won_X8_won : GoodIn wsL_won (wsV RL 84 RX8 yX8_won wsX8_won) := goodIn_app (goodIn_of _ (by decide +kernel)) ggL_won_X8_won
theorem dL_won_0 : decode cL_won 0 = .ok (.aload_n 0, 1) := by decide +kernel
theorem dL_won_1 : decode cL_won 1 = .ok (.iload_n 1, 1) := by decide +kernel
theorem dL_won_2 : decode cL_won 2 = .ok (.invokevirtual 84, 3) := by decide +kernel
theorem dL_won_5 : decode cL_won 5 = .ok (.ireturn, 1) := by decide +kernel
theorem dL_won_6 : decode cL_won 6 = .ok (.astore_n 2, 1) := by decide +kernel
theorem dL_won_7 : decode cL_won 7 = .ok (.ldc 32, 2) := by decide +kernel
theorem dL_won_9 : decode cL_won 9 = .ok (.ireturn, 1) := by decide +kernel
set_option maxRecDepth 20000 in
theorem ggL_isDuel_L_of : GoodIn wsL_isDuel wsL_of := goodIn_ca (goodIn_ca (goodIn_r _ [7, 8, 9, 10, 1, 11, 12, 13, 14, 15, 16, 17, 18, 19, 20, 21, 22, 23, 24, 25, 26, 27, 28, 29, 30, 31, 32, 33, 34, 35, 36, 37, 38, 39, 40, 41, 42, 43, 44, 45, 46, 47, 48, 49, 50, 51, 52, 53, 54, 55, 56, 57, 58, 59, 60, 61, 62, 63, 64, 65, 66, 67, 68, 69, 70, 71, 72, 73, 74, 75, 76, 77, 78, 79, 80, 81, 82, 83, 84, 85, 86, 87, 88, 89, 90, 91, 92, 93, 94, 102, 103, 104, 105, 106, 107, 108, 109, 110, 111, 112, 113, 114, 115, 116, 117, 118, 119, 120, 121, 122, 123, 124, 125, 126, 127, 128, 129, 130, 131, 132] (by decide +kernel) (by decide +kernel)) (goodIn_sub (fun _ h => List.mem_cons_of_mem _ (List.mem_append_left _ (List.mem_append_right _ h))) (by decide +kernel))) (goodIn_sub (fun _ h => List.mem_cons_of_mem _ (List.mem_append_right _ h)) (by decide +kernel))
set_option maxRecDepth 20000 in
theorem gL_isDuel_L_of : GoodIn wsL_isDuel (va_wsS RL 87 yL_of wsL_of) := goodIn_app (goodIn_of _ (by decide +kernel)) ggL_isDuel_L_of
set_option maxRecDepth 20000 in
theorem ggL_isDuel_L_marked : GoodIn wsL_isDuel wsL_marked := goodIn_ca (goodIn_r _ [97, 8, 3, 98, 99, 100, 14, 101, 16, 17, 23, 24, 25, 26, 27, 37, 38, 39, 40, 41, 42, 43, 44, 45, 46, 47, 21, 22, 48, 49, 50, 51, 52, 53, 54, 55, 56, 57, 58, 59, 60, 61, 62, 63, 64, 65, 66, 67, 68, 69, 70, 71, 72, 73, 74, 75, 76, 77, 78, 79, 80, 81, 82, 112, 113, 114, 115, 116, 117, 118, 119, 120, 121, 102, 103, 104, 105, 106, 107, 108, 109, 110, 111, 126, 122, 123, 124, 125, 127, 128, 129, 130, 131, 132] (by decide +kernel) (by decide +kernel)) (goodIn_sub (fun _ h => List.mem_cons_of_mem _ (List.mem_append_left _ (List.mem_append_right _ h))) (by decide +kernel))
set_option maxRecDepth 20000 in
theorem gL_isDuel_L_marked : GoodIn wsL_isDuel (va_wsS RL 92 yL_marked wsL_marked) := goodIn_app (goodIn_of _ (by decide +kernel)) ggL_isDuel_L_marked
theorem dL_isDuel_0 : decode cL_isDuel 0 = .ok (.bipush 8, 2) := by decide +kernel
theorem dL_isDuel_2 : decode cL_isDuel 2 = .ok (.iload_n 3, 1) := by decide +kernel
theorem dL_isDuel_3 : decode cL_isDuel 3 = .ok (.imul, 1) := by decide +kernel
theorem dL_isDuel_4 : decode cL_isDuel 4 = .ok (.istore 4, 2) := by decide +kernel
theorem dL_isDuel_6 : decode cL_isDuel 6 = .ok (.aload_n 0, 1) := by decide +kernel
theorem dL_isDuel_7 : decode cL_isDuel 7 = .ok (.iload_n 3, 1) := by decide +kernel
theorem dL_isDuel_8 : decode cL_isDuel 8 = .ok (.iconst 1, 1) := by decide +kernel
theorem dL_isDuel_9 : decode cL_isDuel 9 = .ok (.invokestatic 87, 3) := by decide +kernel
theorem dL_isDuel_12 : decode cL_isDuel 12 = .ok (.istore 5, 2) := by decide +kernel
theorem dL_isDuel_14 : decode cL_isDuel 14 = .ok (.aload_n 0, 1) := by decide +kernel
theorem dL_isDuel_15 : decode cL_isDuel 15 = .ok (.iload_n 3, 1) := by decide +kernel
theorem dL_isDuel_16 : decode cL_isDuel 16 = .ok (.iconst 2, 1) := by decide +kernel
theorem dL_isDuel_17 : decode cL_isDuel 17 = .ok (.invokestatic 87, 3) := by decide +kernel
theorem dL_isDuel_20 : decode cL_isDuel 20 = .ok (.istore 6, 2) := by decide +kernel
theorem dL_isDuel_22 : decode cL_isDuel 22 = .ok (.aload_n 2, 1) := by decide +kernel
theorem dL_isDuel_23 : decode cL_isDuel 23 = .ok (.iload 4, 2) := by decide +kernel
theorem dL_isDuel_25 : decode cL_isDuel 25 = .ok (.iconst 5, 1) := by decide +kernel
theorem dL_isDuel_26 : decode cL_isDuel 26 = .ok (.iadd, 1) := by decide +kernel
theorem dL_isDuel_27 : decode cL_isDuel 27 = .ok (.iaload, 1) := by decide +kernel
theorem dL_isDuel_28 : decode cL_isDuel 28 = .ok (.iconst 2, 1) := by decide +kernel
theorem dL_isDuel_29 : decode cL_isDuel 29 = .ok (.idiv, 1) := by decide +kernel
theorem dL_isDuel_30 : decode cL_isDuel 30 = .ok (.istore 7, 2) := by decide +kernel
theorem dL_isDuel_32 : decode cL_isDuel 32 = .ok (.aload_n 2, 1) := by decide +kernel
theorem dL_isDuel_33 : decode cL_isDuel 33 = .ok (.iload 4, 2) := by decide +kernel
theorem dL_isDuel_35 : decode cL_isDuel 35 = .ok (.iconst 5, 1) := by decide +kernel
theorem dL_isDuel_36 : decode cL_isDuel 36 = .ok (.iadd, 1) := by decide +kernel
theorem dL_isDuel_37 : decode cL_isDuel 37 = .ok (.iaload, 1) := by decide +kernel
theorem dL_isDuel_38 : decode cL_isDuel 38 = .ok (.iconst 2, 1) := by decide +kernel
theorem dL_isDuel_39 : decode cL_isDuel 39 = .ok (.aload_n 2, 1) := by decide +kernel
theorem dL_isDuel_40 : decode cL_isDuel 40 = .ok (.iload 4, 2) := by decide +kernel
theorem dL_isDuel_42 : decode cL_isDuel 42 = .ok (.iconst 4, 1) := by decide +kernel
theorem dL_isDuel_43 : decode cL_isDuel 43 = .ok (.iadd, 1) := by decide +kernel
theorem dL_isDuel_44 : decode cL_isDuel 44 = .ok (.iaload, 1) := by decide +kernel
theorem dL_isDuel_45 : decode cL_isDuel 45 = .ok (.imul, 1) := by decide +kernel
theorem dL_isDuel_46 : decode cL_isDuel 46 = .ok (.if_icmp .ne 7, 3) := by decide +kernel
theorem dL_isDuel_49 : decode cL_isDuel 49 = .ok (.iconst 1, 1) := by decide +kernel
theorem dL_isDuel_50 : decode cL_isDuel 50 = .ok (.goto 4, 3) := by decide +kernel
theorem dL_isDuel_53 : decode cL_isDuel 53 = .ok (.iconst 0, 1) := by decide +kernel
theorem dL_isDuel_54 : decode cL_isDuel 54 = .ok (.istore 8, 2) := by decide +kernel
theorem dL_isDuel_56 : decode cL_isDuel 56 = .ok (.iload 8, 2) := by decide +kernel
theorem dL_isDuel_58 : decode cL_isDuel 58 = .ok (.ifCond .eq 10, 3) := by decide +kernel
theorem dL_isDuel_61 : decode cL_isDuel 61 = .ok (.iload 5, 2) := by decide +kernel
theorem dL_isDuel_63 : decode cL_isDuel 63 = .ok (.iload 6, 2) := by decide +kernel
theorem dL_isDuel_65 : decode cL_isDuel 65 = .ok (.if_icmp .ne 7, 3) := by decide +kernel
theorem dL_isDuel_68 : decode cL_isDuel 68 = .ok (.iconst (-1), 1) := by decide +kernel
theorem dL_isDuel_69 : decode cL_isDuel 69 = .ok (.goto 23, 3) := by decide +kernel
theorem dL_isDuel_72 : decode cL_isDuel 72 = .ok (.iload 5, 2) := by decide +kernel
theorem dL_isDuel_74 : decode cL_isDuel 74 = .ok (.iload 6, 2) := by decide +kernel
theorem dL_isDuel_76 : decode cL_isDuel 76 = .ok (.if_icmp .le 10, 3) := by decide +kernel
theorem dL_isDuel_79 : decode cL_isDuel 79 = .ok (.aload_n 2, 1) := by decide +kernel
theorem dL_isDuel_80 : decode cL_isDuel 80 = .ok (.iload 4, 2) := by decide +kernel
theorem dL_isDuel_82 : decode cL_isDuel 82 = .ok (.iaload, 1) := by decide +kernel
theorem dL_isDuel_83 : decode cL_isDuel 83 = .ok (.goto 9, 3) := by decide +kernel
theorem dL_isDuel_86 : decode cL_isDuel 86 = .ok (.aload_n 2, 1) := by decide +kernel
theorem dL_isDuel_87 : decode cL_isDuel 87 = .ok (.iload 4, 2) := by decide +kernel
theorem dL_isDuel_89 : decode cL_isDuel 89 = .ok (.iconst 1, 1) := by decide +kernel
theorem dL_isDuel_90 : decode cL_isDuel 90 = .ok (.iadd, 1) := by decide +kernel
theorem dL_isDuel_91 : decode cL_isDuel 91 = .ok (.iaload, 1) := by decide +kernel
theorem dL_isDuel_92 : decode cL_isDuel 92 = .ok (.istore 9, 2) := by decide +kernel
theorem dL_isDuel_94 : decode cL_isDuel 94 = .ok (.aload_n 0, 1) := by decide +kernel
theorem dL_isDuel_95 : decode cL_isDuel 95 = .ok (.iload_n 3, 1) := by decide +kernel
theorem dL_isDuel_96 : decode cL_isDuel 96 = .ok (.iconst 0, 1) := by decide +kernel
theorem dL_isDuel_97 : decode cL_isDuel 97 = .ok (.invokestatic 87, 3) := by decide +kernel
theorem dL_isDuel_100 : decode cL_isDuel 100 = .ok (.aload_n 2, 1) := by decide +kernel
theorem dL_isDuel_101 : decode cL_isDuel 101 = .ok (.iload 4, 2) := by decide +kernel
theorem dL_isDuel_103 : decode cL_isDuel 103 = .ok (.iconst 5, 1) := by decide +kernel
theorem dL_isDuel_104 : decode cL_isDuel 104 = .ok (.iadd, 1) := by decide +kernel
theorem dL_isDuel_105 : decode cL_isDuel 105 = .ok (.iaload, 1) := by decide +kernel
theorem dL_isDuel_106 : decode cL_isDuel 106 = .ok (.if_icmp .ne 82, 3) := by decide +kernel
theorem dL_isDuel_109 : decode cL_isDuel 109 = .ok (.iload 5, 2) := by decide +kernel
theorem dL_isDuel_111 : decode cL_isDuel 111 = .ok (.ifCond .lt 77, 3) := by decide +kernel
theorem dL_isDuel_114 : decode cL_isDuel 114 = .ok (.iload 6, 2) := by decide +kernel
theorem dL_isDuel_116 : decode cL_isDuel 116 = .ok (.ifCond .lt 72, 3) := by decide +kernel
theorem dL_isDuel_119 : decode cL_isDuel 119 = .ok (.iload 5, 2) := by decide +kernel
theorem dL_isDuel_121 : decode cL_isDuel 121 = .ok (.iload 6, 2) := by decide +kernel
theorem dL_isDuel_123 : decode cL_isDuel 123 = .ok (.iadd, 1) := by decide +kernel
theorem dL_isDuel_124 : decode cL_isDuel 124 = .ok (.iload 7, 2) := by decide +kernel
theorem dL_isDuel_126 : decode cL_isDuel 126 = .ok (.if_icmp .gt 62, 3) := by decide +kernel
theorem dL_isDuel_129 : decode cL_isDuel 129 = .ok (.aload_n 0, 1) := by decide +kernel
theorem dL_isDuel_130 : decode cL_isDuel 130 = .ok (.iload_n 3, 1) := by decide +kernel
theorem dL_isDuel_131 : decode cL_isDuel 131 = .ok (.iconst 3, 1) := by decide +kernel
theorem dL_isDuel_132 : decode cL_isDuel 132 = .ok (.invokestatic 87, 3) := by decide +kernel
theorem dL_isDuel_135 : decode cL_isDuel 135 = .ok (.iload 9, 2) := by decide +kernel
theorem dL_isDuel_137 : decode cL_isDuel 137 = .ok (.if_icmp .ne 51, 3) := by decide +kernel
theorem dL_isDuel_140 : decode cL_isDuel 140 = .ok (.aload_n 0, 1) := by decide +kernel
theorem dL_isDuel_141 : decode cL_isDuel 141 = .ok (.iload_n 3, 1) := by decide +kernel
theorem dL_isDuel_142 : decode cL_isDuel 142 = .ok (.iconst 4, 1) := by decide +kernel
theorem dL_isDuel_143 : decode cL_isDuel 143 = .ok (.invokestatic 87, 3) := by decide +kernel
theorem dL_isDuel_146 : decode cL_isDuel 146 = .ok (.aload_n 2, 1) := by decide +kernel
theorem dL_isDuel_147 : decode cL_isDuel 147 = .ok (.iload 4, 2) := by decide +kernel
theorem dL_isDuel_149 : decode cL_isDuel 149 = .ok (.bipush 6, 2) := by decide +kernel
theorem dL_isDuel_151 : decode cL_isDuel 151 = .ok (.iadd, 1) := by decide +kernel
theorem dL_isDuel_152 : decode cL_isDuel 152 = .ok (.iaload, 1) := by decide +kernel
theorem dL_isDuel_153 : decode cL_isDuel 153 = .ok (.if_icmp .ne 35, 3) := by decide +kernel
theorem dL_isDuel_156 : decode cL_isDuel 156 = .ok (.aload_n 0, 1) := by decide +kernel
theorem dL_isDuel_157 : decode cL_isDuel 157 = .ok (.iload_n 3, 1) := by decide +kernel
theorem dL_isDuel_158 : decode cL_isDuel 158 = .ok (.iconst 5, 1) := by decide +kernel
theorem dL_isDuel_159 : decode cL_isDuel 159 = .ok (.invokestatic 87, 3) := by decide +kernel
theorem dL_isDuel_162 : decode cL_isDuel 162 = .ok (.aload_n 2, 1) := by decide +kernel
theorem dL_isDuel_163 : decode cL_isDuel 163 = .ok (.iload 4, 2) := by decide +kernel
theorem dL_isDuel_165 : decode cL_isDuel 165 = .ok (.bipush 7, 2) := by decide +kernel
theorem dL_isDuel_167 : decode cL_isDuel 167 = .ok (.iadd, 1) := by decide +kernel
theorem dL_isDuel_168 : decode cL_isDuel 168 = .ok (.iaload, 1) := by decide +kernel
theorem dL_isDuel_169 : decode cL_isDuel 169 = .ok (.if_icmp .ne 19, 3) := by decide +kernel
theorem dL_isDuel_172 : decode cL_isDuel 172 = .ok (.aload_n 0, 1) := by decide +kernel
theorem dL_isDuel_173 : decode cL_isDuel 173 = .ok (.iload_n 3, 1) := by decide +kernel
theorem dL_isDuel_174 : decode cL_isDuel 174 = .ok (.bipush 6, 2) := by decide +kernel
theorem dL_isDuel_176 : decode cL_isDuel 176 = .ok (.invokestatic 87, 3) := by decide +kernel
theorem dL_isDuel_179 : decode cL_isDuel 179 = .ok (.ldc 18, 2) := by decide +kernel
theorem dL_isDuel_181 : decode cL_isDuel 181 = .ok (.if_icmp .ne 7, 3) := by decide +kernel
theorem dL_isDuel_184 : decode cL_isDuel 184 = .ok (.iconst 1, 1) := by decide +kernel
theorem dL_isDuel_185 : decode cL_isDuel 185 = .ok (.goto 4, 3) := by decide +kernel
theorem dL_isDuel_188 : decode cL_isDuel 188 = .ok (.iconst 0, 1) := by decide +kernel
theorem dL_isDuel_189 : decode cL_isDuel 189 = .ok (.istore 10, 2) := by decide +kernel
theorem dL_isDuel_191 : decode cL_isDuel 191 = .ok (.iconst 0, 1) := by decide +kernel
theorem dL_isDuel_192 : decode cL_isDuel 192 = .ok (.istore 11, 2) := by decide +kernel
theorem dL_isDuel_194 : decode cL_isDuel 194 = .ok (.iload 11, 2) := by decide +kernel
theorem dL_isDuel_196 : decode cL_isDuel 196 = .ok (.bipush 11, 2) := by decide +kernel
theorem dL_isDuel_198 : decode cL_isDuel 198 = .ok (.if_icmp .ge 87, 3) := by decide +kernel
theorem dL_isDuel_201 : decode cL_isDuel 201 = .ok (.iload 10, 2) := by decide +kernel
theorem dL_isDuel_203 : decode cL_isDuel 203 = .ok (.ifCond .eq 82, 3) := by decide +kernel
theorem dL_isDuel_206 : decode cL_isDuel 206 = .ok (.aload_n 0, 1) := by decide +kernel
theorem dL_isDuel_207 : decode cL_isDuel 207 = .ok (.iload_n 3, 1) := by decide +kernel
theorem dL_isDuel_208 : decode cL_isDuel 208 = .ok (.iload 11, 2) := by decide +kernel
theorem dL_isDuel_210 : decode cL_isDuel 210 = .ok (.iconst 2, 1) := by decide +kernel
theorem dL_isDuel_211 : decode cL_isDuel 211 = .ok (.idiv, 1) := by decide +kernel
theorem dL_isDuel_212 : decode cL_isDuel 212 = .ok (.iload 11, 2) := by decide +kernel
theorem dL_isDuel_214 : decode cL_isDuel 214 = .ok (.iconst 2, 1) := by decide +kernel
theorem dL_isDuel_215 : decode cL_isDuel 215 = .ok (.irem, 1) := by decide +kernel
theorem dL_isDuel_216 : decode cL_isDuel 216 = .ok (.iconst 1, 1) := by decide +kernel
theorem dL_isDuel_217 : decode cL_isDuel 217 = .ok (.if_icmp .ne 7, 3) := by decide +kernel
theorem dL_isDuel_220 : decode cL_isDuel 220 = .ok (.iconst 1, 1) := by decide +kernel
theorem dL_isDuel_221 : decode cL_isDuel 221 = .ok (.goto 4, 3) := by decide +kernel
theorem dL_isDuel_224 : decode cL_isDuel 224 = .ok (.iconst 0, 1) := by decide +kernel
theorem dL_isDuel_225 : decode cL_isDuel 225 = .ok (.invokestatic 92, 3) := by decide +kernel
theorem dL_isDuel_228 : decode cL_isDuel 228 = .ok (.fstore 12, 2) := by decide +kernel
theorem dL_isDuel_230 : decode cL_isDuel 230 = .ok (.iload 11, 2) := by decide +kernel
theorem dL_isDuel_232 : decode cL_isDuel 232 = .ok (.aload_n 2, 1) := by decide +kernel
theorem dL_isDuel_233 : decode cL_isDuel 233 = .ok (.iload 4, 2) := by decide +kernel
theorem dL_isDuel_235 : decode cL_isDuel 235 = .ok (.iconst 5, 1) := by decide +kernel
theorem dL_isDuel_236 : decode cL_isDuel 236 = .ok (.iadd, 1) := by decide +kernel
theorem dL_isDuel_237 : decode cL_isDuel 237 = .ok (.iaload, 1) := by decide +kernel
theorem dL_isDuel_238 : decode cL_isDuel 238 = .ok (.if_icmp .ge 26, 3) := by decide +kernel
theorem dL_isDuel_241 : decode cL_isDuel 241 = .ok (.fload 12, 2) := by decide +kernel
theorem dL_isDuel_243 : decode cL_isDuel 243 = .ok (.fconst 0, 1) := by decide +kernel
theorem dL_isDuel_244 : decode cL_isDuel 244 = .ok (.fcmp .l, 1) := by decide +kernel
theorem dL_isDuel_245 : decode cL_isDuel 245 = .ok (.ifCond .lt 15, 3) := by decide +kernel
theorem dL_isDuel_248 : decode cL_isDuel 248 = .ok (.fload 12, 2) := by decide +kernel
theorem dL_isDuel_250 : decode cL_isDuel 250 = .ok (.ldc 95, 2) := by decide +kernel
theorem dL_isDuel_252 : decode cL_isDuel 252 = .ok (.fcmp .g, 1) := by decide +kernel
theorem dL_isDuel_253 : decode cL_isDuel 253 = .ok (.ifCond .gt 7, 3) := by decide +kernel
theorem dL_isDuel_256 : decode cL_isDuel 256 = .ok (.iconst 1, 1) := by decide +kernel
theorem dL_isDuel_257 : decode cL_isDuel 257 = .ok (.goto 20, 3) := by decide +kernel
theorem dL_isDuel_260 : decode cL_isDuel 260 = .ok (.iconst 0, 1) := by decide +kernel
theorem dL_isDuel_261 : decode cL_isDuel 261 = .ok (.goto 16, 3) := by decide +kernel
theorem dL_isDuel_264 : decode cL_isDuel 264 = .ok (.fload 12, 2) := by decide +kernel
theorem dL_isDuel_266 : decode cL_isDuel 266 = .ok (.ldc 68, 2) := by decide +kernel
theorem dL_isDuel_268 : decode cL_isDuel 268 = .ok (.fcmp .l, 1) := by decide +kernel
theorem dL_isDuel_269 : decode cL_isDuel 269 = .ok (.ifCond .ne 7, 3) := by decide +kernel
theorem dL_isDuel_272 : decode cL_isDuel 272 = .ok (.iconst 1, 1) := by decide +kernel
theorem dL_isDuel_273 : decode cL_isDuel 273 = .ok (.goto 4, 3) := by decide +kernel
theorem dL_isDuel_276 : decode cL_isDuel 276 = .ok (.iconst 0, 1) := by decide +kernel
theorem dL_isDuel_277 : decode cL_isDuel 277 = .ok (.istore 10, 2) := by decide +kernel
theorem dL_isDuel_279 : decode cL_isDuel 279 = .ok (.iinc 11 1, 3) := by decide +kernel
theorem dL_isDuel_282 : decode cL_isDuel 282 = .ok (.goto (-88), 3) := by decide +kernel
theorem dL_isDuel_285 : decode cL_isDuel 285 = .ok (.iload 10, 2) := by decide +kernel
theorem dL_isDuel_287 : decode cL_isDuel 287 = .ok (.ireturn, 1) := by decide +kernel
set_option maxRecDepth 20000 in
theorem ggL_areWon_L_won : GoodIn wsL_areWon wsL_won := goodIn_ca (goodIn_r _ [4, 5, 6, 7, 8, 9, 10, 11, 12, 13, 14, 15, 16, 17, 18, 19, 20, 21, 22, 23, 24, 25, 26, 27, 28, 29, 30, 31, 32, 33, 34, 35, 36, 37, 38, 39, 40, 41, 42, 43, 44, 45, 46, 47, 48, 49, 50, 51, 52, 53, 54, 55, 56, 57, 58, 59, 60, 61, 62, 63, 64, 65, 66, 67, 68, 69, 70, 71, 72, 73, 74, 75, 76, 77, 78, 79, 80, 81, 82, 83, 84, 85, 106, 107, 108, 109, 110, 111, 112, 113, 114, 115, 116, 117, 118, 119, 120, 121, 122, 123, 124, 125, 126, 127, 128, 129, 130, 131, 132, 133, 134, 135, 136] (by decide +kernel) (by decide +kernel)) (goodIn_sub (fun _ h => List.mem_cons_of_mem _ (List.mem_append_left _ (List.mem_append_right _ h))) (by decide +kernel))
set_option maxRecDepth 20000 in
theorem gL_areWon_L_won : GoodIn wsL_areWon (va_wsS RL 96 yL_won wsL_won) := goodIn_app (goodIn_of _ (by decide +kernel)) ggL_areWon_L_won
set_option maxRecDepth 20000 in
theorem ggL_areWon_L_of : GoodIn wsL_areWon wsL_of := goodIn_ca (goodIn_ca (goodIn_r _ [88, 5, 89, 6, 90, 91, 92, 93, 10, 94, 12, 13, 95, 96, 97, 49, 50, 98, 99, 100, 101, 14, 102, 103, 104, 105, 34, 35, 36, 37, 38, 39, 40, 41, 30, 42, 43, 44, 45, 46, 47, 48, 51, 52, 53, 54, 55, 56, 57, 58, 59, 60, 61, 62, 63, 64, 65, 66, 67, 68, 69, 70, 71, 72, 73, 74, 75, 76, 77, 78, 79, 80, 81, 82, 83, 84, 85, 21, 22, 23, 24, 25, 26, 27, 28, 29, 31, 32, 33, 116, 117, 118, 119, 120, 121, 122, 123, 124, 125, 106, 107, 108, 109, 110, 111, 112, 113, 114, 115, 126, 127, 128, 129, 130, 131, 132, 133, 134, 135, 136] (by decide +kernel) (by decide +kernel)) (goodIn_sub (fun _ h => List.mem_cons_of_mem _ (List.mem_append_left _ (List.mem_append_right _ h))) (by decide +kernel))) (goodIn_sub (fun _ h => List.mem_cons_of_mem _ (List.mem_append_right _ h)) (by decide +kernel))
set_option maxRecDepth 20000 in
theorem gL_areWon_L_of : GoodIn wsL_areWon (va_wsS RL 87 yL_of wsL_of) := goodIn_app (goodIn_of _ (by decide +kernel)) ggL_areWon_L_of
theorem dL_areWon_0 : decode cL_areWon 0 = .ok (.iconst 0, 1) := by decide +kernel
theorem dL_areWon_1 : decode cL_areWon 1 = .ok (.istore_n 2, 1) := by decide +kernel
theorem dL_areWon_2 : decode cL_areWon 2 = .ok (.iconst 0, 1) := by decide +kernel
theorem dL_areWon_3 : decode cL_areWon 3 = .ok (.istore_n 3, 1) := by decide +kernel
theorem dL_areWon_4 : decode cL_areWon 4 = .ok (.iload_n 3, 1) := by decide +kernel
theorem dL_areWon_5 : decode cL_areWon 5 = .ok (.bipush 8, 2) := by decide +kernel
theorem dL_areWon_7 : decode cL_areWon 7 = .ok (.if_icmp .ge 17, 3) := by decide +kernel
theorem dL_areWon_10 : decode cL_areWon 10 = .ok (.iload_n 2, 1) := by decide +kernel
theorem dL_areWon_11 : decode cL_areWon 11 = .ok (.aload_n 0, 1) := by decide +kernel
theorem dL_areWon_12 : decode cL_areWon 12 = .ok (.iload_n 3, 1) := by decide +kernel
theorem dL_areWon_13 : decode cL_areWon 13 = .ok (.invokestatic 96, 3) := by decide +kernel
theorem dL_areWon_16 : decode cL_areWon 16 = .ok (.iadd, 1) := by decide +kernel
theorem dL_areWon_17 : decode cL_areWon 17 = .ok (.istore_n 2, 1) := by decide +kernel
theorem dL_areWon_18 : decode cL_areWon 18 = .ok (.iinc 3 1, 3) := by decide +kernel
theorem dL_areWon_21 : decode cL_areWon 21 = .ok (.goto (-17), 3) := by decide +kernel
theorem dL_areWon_24 : decode cL_areWon 24 = .ok (.iconst 0, 1) := by decide +kernel
theorem dL_areWon_25 : decode cL_areWon 25 = .ok (.istore_n 3, 1) := by decide +kernel
theorem dL_areWon_26 : decode cL_areWon 26 = .ok (.iload_n 3, 1) := by decide +kernel
theorem dL_areWon_27 : decode cL_areWon 27 = .ok (.aload_n 1, 1) := by decide +kernel
theorem dL_areWon_28 : decode cL_areWon 28 = .ok (.iconst 3, 1) := by decide +kernel
theorem dL_areWon_29 : decode cL_areWon 29 = .ok (.iaload, 1) := by decide +kernel
theorem dL_areWon_30 : decode cL_areWon 30 = .ok (.if_icmp .ge 26, 3) := by decide +kernel
theorem dL_areWon_33 : decode cL_areWon 33 = .ok (.iload_n 2, 1) := by decide +kernel
theorem dL_areWon_34 : decode cL_areWon 34 = .ok (.aload_n 0, 1) := by decide +kernel
theorem dL_areWon_35 : decode cL_areWon 35 = .ok (.iload_n 3, 1) := by decide +kernel
theorem dL_areWon_36 : decode cL_areWon 36 = .ok (.iconst 3, 1) := by decide +kernel
theorem dL_areWon_37 : decode cL_areWon 37 = .ok (.invokestatic 87, 3) := by decide +kernel
theorem dL_areWon_40 : decode cL_areWon 40 = .ok (.ifCond .ge 7, 3) := by decide +kernel
theorem dL_areWon_43 : decode cL_areWon 43 = .ok (.iconst 0, 1) := by decide +kernel
theorem dL_areWon_44 : decode cL_areWon 44 = .ok (.goto 4, 3) := by decide +kernel
theorem dL_areWon_47 : decode cL_areWon 47 = .ok (.iconst 1, 1) := by decide +kernel
theorem dL_areWon_48 : decode cL_areWon 48 = .ok (.isub, 1) := by decide +kernel
theorem dL_areWon_49 : decode cL_areWon 49 = .ok (.istore_n 2, 1) := by decide +kernel
theorem dL_areWon_50 : decode cL_areWon 50 = .ok (.iinc 3 1, 3) := by decide +kernel
theorem dL_areWon_53 : decode cL_areWon 53 = .ok (.goto (-27), 3) := by decide +kernel
theorem dL_areWon_56 : decode cL_areWon 56 = .ok (.iload_n 2, 1) := by decide +kernel
theorem dL_areWon_57 : decode cL_areWon 57 = .ok (.ifCond .ne 7, 3) := by decide +kernel
theorem dL_areWon_60 : decode cL_areWon 60 = .ok (.iconst 1, 1) := by decide +kernel
theorem dL_areWon_61 : decode cL_areWon 61 = .ok (.goto 4, 3) := by decide +kernel
theorem dL_areWon_64 : decode cL_areWon 64 = .ok (.iconst 0, 1) := by decide +kernel
theorem dL_areWon_65 : decode cL_areWon 65 = .ok (.ireturn, 1) := by decide +kernel
set_option maxRecDepth 20000 in
theorem ggL_isDraft_L_mark : GoodIn wsL_isDraft wsL_mark := goodIn_ca (goodIn_r _ [9, 10, 1, 11, 12, 13, 14, 15, 16, 17, 18, 19, 20, 21, 22, 23, 24, 25, 26, 27, 28, 29, 30, 31, 32, 33, 34, 35, 36, 37, 38, 39, 40, 41, 42, 43, 44, 45, 46, 47, 48, 49, 50, 51, 52, 53, 54, 55, 56, 57, 58, 59, 60, 61, 62, 63, 64, 65, 66, 67, 68, 69, 70, 71, 72, 73, 74, 75, 76, 77, 78, 79, 80, 81, 82, 83, 84, 85, 86, 87, 88, 89, 90, 91, 92, 93, 94, 95, 96, 97, 98, 99, 118, 119, 120, 121, 122, 123, 124, 125, 126, 127, 128, 129, 130, 131, 132, 133, 134, 135, 136, 137, 138, 139, 140, 141, 142, 143] (by decide +kernel) (by decide +kernel)) (goodIn_sub (fun _ h => List.mem_cons_of_mem _ (List.mem_append_left _ (List.mem_append_right _ h))) (by decide +kernel))
set_option maxRecDepth 20000 in
theorem gL_isDraft_L_mark : GoodIn wsL_isDraft (va_wsS RL 99 yL_mark wsL_mark) := goodIn_app (goodIn_of _ (by decide +kernel)) ggL_isDraft_L_mark
set_option maxRecDepth 20000 in
theorem ggL_isDraft_L_low : GoodIn wsL_isDraft wsL_low := goodIn_r _ [102, 103] (by decide +kernel) (by decide +kernel)
set_option maxRecDepth 20000 in
theorem gL_isDraft_L_low : GoodIn wsL_isDraft (va_wsS RL 102 yL_low wsL_low) := goodIn_app (goodIn_of _ (by decide +kernel)) ggL_isDraft_L_low
set_option maxRecDepth 20000 in
theorem ggL_isDraft_L_part : GoodIn wsL_isDraft wsL_part := goodIn_ca (goodIn_ca (goodIn_r _ [106, 10, 107, 1, 4, 108, 109, 110, 14, 111, 16, 17, 112, 113, 21, 114, 115, 116, 22, 23, 24, 25, 26, 117, 44, 45, 46, 47, 48, 49, 50, 51, 52, 53, 54, 55, 56, 57, 58, 59, 60, 61, 62, 63, 64, 65, 66, 67, 68, 69, 70, 71, 72, 73, 74, 75, 76, 77, 78, 79, 80, 81, 82, 83, 84, 36, 37, 85, 86, 87, 122, 123, 124, 125, 126, 127, 128, 129, 130, 131, 134, 135, 136, 132, 133, 137, 138, 139, 140] (by decide +kernel) (by decide +kernel)) (goodIn_sub (fun _ h => List.mem_cons_of_mem _ (List.mem_append_left _ (List.mem_append_right _ h))) (by decide +kernel))) (goodIn_sub (fun _ h => List.mem_cons_of_mem _ (List.mem_append_right _ h)) (by decide +kernel))
set_option maxRecDepth 20000 in
theorem gL_isDraft_L_part : GoodIn wsL_isDraft (va_wsS RL 105 yL_part wsL_part) := goodIn_app (goodIn_of _ (by decide +kernel)) ggL_isDraft_L_part
theorem dL_isDraft_0 : decode cL_isDraft 0 = .ok (.aload_n 1, 1) := by decide +kernel
theorem dL_isDraft_1 : decode cL_isDraft 1 = .ok (.iconst 1, 1) := by decide +kernel
theorem dL_isDraft_2 : decode cL_isDraft 2 = .ok (.iaload, 1) := by decide +kernel
theorem dL_isDraft_3 : decode cL_isDraft 3 = .ok (.ifCond .ne 21, 3) := by decide +kernel
theorem dL_isDraft_6 : decode cL_isDraft 6 = .ok (.aload_n 0, 1) := by decide +kernel
theorem dL_isDraft_7 : decode cL_isDraft 7 = .ok (.iconst 0, 1) := by decide +kernel
theorem dL_isDraft_8 : decode cL_isDraft 8 = .ok (.iconst 0, 1) := by decide +kernel
theorem dL_isDraft_9 : decode cL_isDraft 9 = .ok (.invokestatic 99, 3) := by decide +kernel
theorem dL_isDraft_12 : decode cL_isDraft 12 = .ok (.ldc 68, 2) := by decide +kernel
theorem dL_isDraft_14 : decode cL_isDraft 14 = .ok (.fcmp .l, 1) := by decide +kernel
theorem dL_isDraft_15 : decode cL_isDraft 15 = .ok (.ifCond .ne 7, 3) := by decide +kernel
theorem dL_isDraft_18 : decode cL_isDraft 18 = .ok (.iconst 1, 1) := by decide +kernel
theorem dL_isDraft_19 : decode cL_isDraft 19 = .ok (.goto 4, 3) := by decide +kernel
theorem dL_isDraft_22 : decode cL_isDraft 22 = .ok (.iconst 0, 1) := by decide +kernel
theorem dL_isDraft_23 : decode cL_isDraft 23 = .ok (.ireturn, 1) := by decide +kernel
theorem dL_isDraft_24 : decode cL_isDraft 24 = .ok (.iload_n 3, 1) := by decide +kernel
theorem dL_isDraft_25 : decode cL_isDraft 25 = .ok (.aload_n 1, 1) := by decide +kernel
theorem dL_isDraft_26 : decode cL_isDraft 26 = .ok (.iconst 1, 1) := by decide +kernel
theorem dL_isDraft_27 : decode cL_isDraft 27 = .ok (.iaload, 1) := by decide +kernel
theorem dL_isDraft_28 : decode cL_isDraft 28 = .ok (.invokestatic 102, 3) := by decide +kernel
theorem dL_isDraft_31 : decode cL_isDraft 31 = .ok (.istore 4, 2) := by decide +kernel
theorem dL_isDraft_33 : decode cL_isDraft 33 = .ok (.aload_n 0, 1) := by decide +kernel
theorem dL_isDraft_34 : decode cL_isDraft 34 = .ok (.iload 4, 2) := by decide +kernel
theorem dL_isDraft_36 : decode cL_isDraft 36 = .ok (.aload_n 1, 1) := by decide +kernel
theorem dL_isDraft_37 : decode cL_isDraft 37 = .ok (.iconst 2, 1) := by decide +kernel
theorem dL_isDraft_38 : decode cL_isDraft 38 = .ok (.iaload, 1) := by decide +kernel
theorem dL_isDraft_39 : decode cL_isDraft 39 = .ok (.iconst 0, 1) := by decide +kernel
theorem dL_isDraft_40 : decode cL_isDraft 40 = .ok (.invokestatic 105, 3) := by decide +kernel
theorem dL_isDraft_43 : decode cL_isDraft 43 = .ok (.ldc 68, 2) := by decide +kernel
theorem dL_isDraft_45 : decode cL_isDraft 45 = .ok (.fcmp .l, 1) := by decide +kernel
theorem dL_isDraft_46 : decode cL_isDraft 46 = .ok (.ifCond .ne 39, 3) := by decide +kernel
theorem dL_isDraft_49 : decode cL_isDraft 49 = .ok (.aload_n 0, 1) := by decide +kernel
theorem dL_isDraft_50 : decode cL_isDraft 50 = .ok (.iload 4, 2) := by decide +kernel
theorem dL_isDraft_52 : decode cL_isDraft 52 = .ok (.aload_n 2, 1) := by decide +kernel
theorem dL_isDraft_53 : decode cL_isDraft 53 = .ok (.iload 4, 2) := by decide +kernel
theorem dL_isDraft_55 : decode cL_isDraft 55 = .ok (.iaload, 1) := by decide +kernel
theorem dL_isDraft_56 : decode cL_isDraft 56 = .ok (.iconst 2, 1) := by decide +kernel
theorem dL_isDraft_57 : decode cL_isDraft 57 = .ok (.invokestatic 105, 3) := by decide +kernel
theorem dL_isDraft_60 : decode cL_isDraft 60 = .ok (.ldc 68, 2) := by decide +kernel
theorem dL_isDraft_62 : decode cL_isDraft 62 = .ok (.fcmp .l, 1) := by decide +kernel
theorem dL_isDraft_63 : decode cL_isDraft 63 = .ok (.ifCond .ne 22, 3) := by decide +kernel
theorem dL_isDraft_66 : decode cL_isDraft 66 = .ok (.aload_n 0, 1) := by decide +kernel
theorem dL_isDraft_67 : decode cL_isDraft 67 = .ok (.aload_n 1, 1) := by decide +kernel
theorem dL_isDraft_68 : decode cL_isDraft 68 = .ok (.iconst 1, 1) := by decide +kernel
theorem dL_isDraft_69 : decode cL_isDraft 69 = .ok (.iaload, 1) := by decide +kernel
theorem dL_isDraft_70 : decode cL_isDraft 70 = .ok (.iconst 0, 1) := by decide +kernel
theorem dL_isDraft_71 : decode cL_isDraft 71 = .ok (.iconst 0, 1) := by decide +kernel
theorem dL_isDraft_72 : decode cL_isDraft 72 = .ok (.invokestatic 105, 3) := by decide +kernel
theorem dL_isDraft_75 : decode cL_isDraft 75 = .ok (.ldc 68, 2) := by decide +kernel
theorem dL_isDraft_77 : decode cL_isDraft 77 = .ok (.fcmp .l, 1) := by decide +kernel
theorem dL_isDraft_78 : decode cL_isDraft 78 = .ok (.ifCond .ne 7, 3) := by decide +kernel
theorem dL_isDraft_81 : decode cL_isDraft 81 = .ok (.iconst 1, 1) := by decide +kernel
theorem dL_isDraft_82 : decode cL_isDraft 82 = .ok (.goto 4, 3) := by decide +kernel
theorem dL_isDraft_85 : decode cL_isDraft 85 = .ok (.iconst 0, 1) := by decide +kernel
theorem dL_isDraft_86 : decode cL_isDraft 86 = .ok (.istore 5, 2) := by decide +kernel
theorem dL_isDraft_88 : decode cL_isDraft 88 = .ok (.iconst 0, 1) := by decide +kernel
theorem dL_isDraft_89 : decode cL_isDraft 89 = .ok (.istore 6, 2) := by decide +kernel
theorem dL_isDraft_91 : decode cL_isDraft 91 = .ok (.iload 6, 2) := by decide +kernel
theorem dL_isDraft_93 : decode cL_isDraft 93 = .ok (.aload_n 1, 1) := by decide +kernel
theorem dL_isDraft_94 : decode cL_isDraft 94 = .ok (.iconst 2, 1) := by decide +kernel
theorem dL_isDraft_95 : decode cL_isDraft 95 = .ok (.iaload, 1) := by decide +kernel
theorem dL_isDraft_96 : decode cL_isDraft 96 = .ok (.if_icmp .ge 126, 3) := by decide +kernel
theorem dL_isDraft_99 : decode cL_isDraft 99 = .ok (.iload 6, 2) := by decide +kernel
theorem dL_isDraft_101 : decode cL_isDraft 101 = .ok (.aload_n 2, 1) := by decide +kernel
theorem dL_isDraft_102 : decode cL_isDraft 102 = .ok (.iload 4, 2) := by decide +kernel
theorem dL_isDraft_104 : decode cL_isDraft 104 = .ok (.iaload, 1) := by decide +kernel
theorem dL_isDraft_105 : decode cL_isDraft 105 = .ok (.if_icmp .ge 117, 3) := by decide +kernel
theorem dL_isDraft_108 : decode cL_isDraft 108 = .ok (.iload 5, 2) := by decide +kernel
theorem dL_isDraft_110 : decode cL_isDraft 110 = .ok (.ifCond .eq 112, 3) := by decide +kernel
theorem dL_isDraft_113 : decode cL_isDraft 113 = .ok (.aload_n 0, 1) := by decide +kernel
theorem dL_isDraft_114 : decode cL_isDraft 114 = .ok (.iload 4, 2) := by decide +kernel
theorem dL_isDraft_116 : decode cL_isDraft 116 = .ok (.iload 6, 2) := by decide +kernel
theorem dL_isDraft_118 : decode cL_isDraft 118 = .ok (.iconst 0, 1) := by decide +kernel
theorem dL_isDraft_119 : decode cL_isDraft 119 = .ok (.invokestatic 105, 3) := by decide +kernel
theorem dL_isDraft_122 : decode cL_isDraft 122 = .ok (.fstore 7, 2) := by decide +kernel
theorem dL_isDraft_124 : decode cL_isDraft 124 = .ok (.aload_n 0, 1) := by decide +kernel
theorem dL_isDraft_125 : decode cL_isDraft 125 = .ok (.iload 4, 2) := by decide +kernel
theorem dL_isDraft_127 : decode cL_isDraft 127 = .ok (.iload 6, 2) := by decide +kernel
theorem dL_isDraft_129 : decode cL_isDraft 129 = .ok (.iconst 1, 1) := by decide +kernel
theorem dL_isDraft_130 : decode cL_isDraft 130 = .ok (.invokestatic 105, 3) := by decide +kernel
theorem dL_isDraft_133 : decode cL_isDraft 133 = .ok (.fstore 8, 2) := by decide +kernel
theorem dL_isDraft_135 : decode cL_isDraft 135 = .ok (.fload 7, 2) := by decide +kernel
theorem dL_isDraft_137 : decode cL_isDraft 137 = .ok (.fconst 0, 1) := by decide +kernel
theorem dL_isDraft_138 : decode cL_isDraft 138 = .ok (.fcmp .l, 1) := by decide +kernel
theorem dL_isDraft_139 : decode cL_isDraft 139 = .ok (.ifCond .lt 74, 3) := by decide +kernel
theorem dL_isDraft_142 : decode cL_isDraft 142 = .ok (.fload 7, 2) := by decide +kernel
theorem dL_isDraft_144 : decode cL_isDraft 144 = .ok (.ldc 108, 2) := by decide +kernel
theorem dL_isDraft_146 : decode cL_isDraft 146 = .ok (.fcmp .g, 1) := by decide +kernel
theorem dL_isDraft_147 : decode cL_isDraft 147 = .ok (.ifCond .gt 66, 3) := by decide +kernel
theorem dL_isDraft_150 : decode cL_isDraft 150 = .ok (.fload 8, 2) := by decide +kernel
theorem dL_isDraft_152 : decode cL_isDraft 152 = .ok (.fconst 0, 1) := by decide +kernel
theorem dL_isDraft_153 : decode cL_isDraft 153 = .ok (.fcmp .l, 1) := by decide +kernel
theorem dL_isDraft_154 : decode cL_isDraft 154 = .ok (.ifCond .lt 59, 3) := by decide +kernel
theorem dL_isDraft_157 : decode cL_isDraft 157 = .ok (.fload 8, 2) := by decide +kernel
theorem dL_isDraft_159 : decode cL_isDraft 159 = .ok (.ldc 109, 2) := by decide +kernel
theorem dL_isDraft_161 : decode cL_isDraft 161 = .ok (.fcmp .g, 1) := by decide +kernel
theorem dL_isDraft_162 : decode cL_isDraft 162 = .ok (.ifCond .gt 51, 3) := by decide +kernel
theorem dL_isDraft_165 : decode cL_isDraft 165 = .ok (.aload_n 0, 1) := by decide +kernel
theorem dL_isDraft_166 : decode cL_isDraft 166 = .ok (.iload 4, 2) := by decide +kernel
theorem dL_isDraft_168 : decode cL_isDraft 168 = .ok (.iload 6, 2) := by decide +kernel
theorem dL_isDraft_170 : decode cL_isDraft 170 = .ok (.iconst 2, 1) := by decide +kernel
theorem dL_isDraft_171 : decode cL_isDraft 171 = .ok (.invokestatic 105, 3) := by decide +kernel
theorem dL_isDraft_174 : decode cL_isDraft 174 = .ok (.aload_n 1, 1) := by decide +kernel
theorem dL_isDraft_175 : decode cL_isDraft 175 = .ok (.iconst 2, 1) := by decide +kernel
theorem dL_isDraft_176 : decode cL_isDraft 176 = .ok (.iaload, 1) := by decide +kernel
theorem dL_isDraft_177 : decode cL_isDraft 177 = .ok (.aload_n 2, 1) := by decide +kernel
theorem dL_isDraft_178 : decode cL_isDraft 178 = .ok (.iload 4, 2) := by decide +kernel
theorem dL_isDraft_180 : decode cL_isDraft 180 = .ok (.iaload, 1) := by decide +kernel
