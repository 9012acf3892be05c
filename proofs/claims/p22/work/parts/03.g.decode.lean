set_option maxRecDepth 20000 in
theorem gX8_look_X8_duelAt : GoodIn wsX8_look (wsV RX8 186 RX8 yX8_duelAt wsX8_duelAt) := goodIn_app (goodIn_of _ (by decide +kernel)) ggX8_look_X8_duelAt
set_option maxRecDepth 20000 in
theorem ggX8_look_X0_writingAt : GoodIn wsX8_look wsX0_writingAt := goodIn_r _ [15, 16, 31, 32, 33, 34, 35, 36, 37, 38, 39, 40] (by decide +kernel) (by decide +kernel)
set_option maxRecDepth 20000 in
theorem gX8_look_X0_writingAt : GoodIn wsX8_look (wsV RX8 234 RX0 yX0_writingAt wsX0_writingAt) := goodIn_app (goodIn_of _ (by decide +kernel)) ggX8_look_X0_writingAt
theorem dX8_look_0 : decode cX8_look 0 = .ok (.aload_n 0, 1) := by decide +kernel
theorem dX8_look_1 : decode cX8_look 1 = .ok (.iload_n 1, 1) := by decide +kernel
theorem dX8_look_2 : decode cX8_look 2 = .ok (.invokevirtual 186, 3) := by decide +kernel
theorem dX8_look_5 : decode cX8_look 5 = .ok (.astore 4, 2) := by decide +kernel
theorem dX8_look_7 : decode cX8_look 7 = .ok (.aload 4, 2) := by decide +kernel
theorem dX8_look_9 : decode cX8_look 9 = .ok (.ifnonnull 7, 3) := by decide +kernel
theorem dX8_look_12 : decode cX8_look 12 = .ok (.aconst_null, 1) := by decide +kernel
theorem dX8_look_13 : decode cX8_look 13 = .ok (.goto 10, 3) := by decide +kernel
theorem dX8_look_16 : decode cX8_look 16 = .ok (.aload 4, 2) := by decide +kernel
theorem dX8_look_18 : decode cX8_look 18 = .ok (.iload_n 2, 1) := by decide +kernel
theorem dX8_look_19 : decode cX8_look 19 = .ok (.iload_n 3, 1) := by decide +kernel
theorem dX8_look_20 : decode cX8_look 20 = .ok (.invokevirtual 234, 3) := by decide +kernel
theorem dX8_look_23 : decode cX8_look 23 = .ok (.astore 5, 2) := by decide +kernel
theorem dX8_look_25 : decode cX8_look 25 = .ok (.aload 5, 2) := by decide +kernel
theorem dX8_look_27 : decode cX8_look 27 = .ok (.ifnonnull 13, 3) := by decide +kernel
theorem dX8_look_30 : decode cX8_look 30 = .ok (.new 96, 3) := by decide +kernel
theorem dX8_look_33 : decode cX8_look 33 = .ok (.dup, 1) := by decide +kernel
theorem dX8_look_34 : decode cX8_look 34 = .ok (.ldc 238, 2) := by decide +kernel
theorem dX8_look_36 : decode cX8_look 36 = .ok (.invokespecial 100, 3) := by decide +kernel
theorem dX8_look_39 : decode cX8_look 39 = .ok (.athrow, 1) := by decide +kernel
theorem dX8_look_40 : decode cX8_look 40 = .ok (.aload 5, 2) := by decide +kernel
theorem dX8_look_42 : decode cX8_look 42 = .ok (.aload 5, 2) := by decide +kernel
theorem dX8_look_44 : decode cX8_look 44 = .ok (.getfield 240, 3) := by decide +kernel
theorem dX8_look_47 : decode cX8_look 47 = .ok (.putfield 244, 3) := by decide +kernel
theorem dX8_look_50 : decode cX8_look 50 = .ok (.aload 5, 2) := by decide +kernel
theorem dX8_look_52 : decode cX8_look 52 = .ok (.getfield 240, 3) := by decide +kernel
theorem dX8_look_55 : decode cX8_look 55 = .ok (.ireturn, 1) := by decide +kernel
set_option maxRecDepth 20000 in
theorem ggX8_appeal_X8_duelAt : GoodIn wsX8_appeal wsX8_duelAt := goodIn_r _ [11, 12, 86, 87, 88, 89, 90, 91, 92, 93, 94, 95] (by decide +kernel) (by decide +kernel)
set_option maxRecDepth 20000 in
theorem gX8_appeal_X8_duelAt : GoodIn wsX8_appeal (wsV RX8 186 RX8 yX8_duelAt wsX8_duelAt) := goodIn_app (goodIn_of _ (by decide +kernel)) ggX8_appeal_X8_duelAt
set_option maxRecDepth 20000 in
theorem ggX8_appeal_X8_judgeAt : GoodIn wsX8_appeal wsX8_judgeAt := goodIn_r _ [16, 17, 86, 87, 88, 89, 90, 91, 92, 93, 94, 95] (by decide +kernel) (by decide +kernel)
set_option maxRecDepth 20000 in
theorem gX8_appeal_X8_judgeAt : GoodIn wsX8_appeal (wsV RX8 133 RX8 yX8_judgeAt wsX8_judgeAt) := goodIn_app (goodIn_of _ (by decide +kernel)) ggX8_appeal_X8_judgeAt
set_option maxRecDepth 20000 in
theorem ggX8_appeal_X0_isOver : GoodIn wsX8_appeal wsX0_isOver := goodIn_r _ [22, 23, 24, 76, 77, 78, 79, 80, 81, 82, 83, 84, 85] (by decide +kernel) (by decide +kernel)
set_option maxRecDepth 20000 in
theorem gX8_appeal_X0_isOver : GoodIn wsX8_appeal (wsV RX8 205 RX0 yX0_isOver wsX0_isOver) := goodIn_app (goodIn_of _ (by decide +kernel)) ggX8_appeal_X0_isOver
set_option maxRecDepth 20000 in
theorem ggX8_appeal_X8_winnerOf : GoodIn wsX8_appeal wsX8_winnerOf := goodIn_r _ [28, 29, 30, 18, 19, 20, 21, 22, 23, 24, 31, 32, 33, 10, 34, 35, 36, 37, 38, 39, 40, 41, 42, 43, 44, 6, 45, 5, 13, 14, 15, 16, 17, 46, 47, 48, 49, 50, 51, 52, 53, 54, 55, 56, 57, 58, 59, 60, 61, 62, 63, 64, 65, 66, 67, 68, 69, 70, 71, 72, 73, 74, 75, 76, 77, 78, 79, 80, 81, 82, 83, 84, 85, 96, 97, 98, 99, 86, 87, 88, 89, 90, 91, 92, 93, 94, 95, 100, 101, 102, 103, 104, 105, 106] (by decide +kernel) (by decide +kernel)
set_option maxRecDepth 20000 in
theorem gX8_appeal_X8_winnerOf : GoodIn wsX8_appeal (wsV RX8 257 RX8 yX8_winnerOf wsX8_winnerOf) := goodIn_app (goodIn_of _ (by decide +kernel)) ggX8_appeal_X8_winnerOf
theorem dX8_appeal_0 : decode cX8_appeal 0 = .ok (.aload_n 0, 1) := by decide +kernel
theorem dX8_appeal_1 : decode cX8_appeal 1 = .ok (.iload_n 1, 1) := by decide +kernel
theorem dX8_appeal_2 : decode cX8_appeal 2 = .ok (.invokevirtual 186, 3) := by decide +kernel
theorem dX8_appeal_5 : decode cX8_appeal 5 = .ok (.astore_n 3, 1) := by decide +kernel
theorem dX8_appeal_6 : decode cX8_appeal 6 = .ok (.aload_n 3, 1) := by decide +kernel
theorem dX8_appeal_7 : decode cX8_appeal 7 = .ok (.ifnull 11, 3) := by decide +kernel
theorem dX8_appeal_10 : decode cX8_appeal 10 = .ok (.aload_n 0, 1) := by decide +kernel
theorem dX8_appeal_11 : decode cX8_appeal 11 = .ok (.iload_n 2, 1) := by decide +kernel
theorem dX8_appeal_12 : decode cX8_appeal 12 = .ok (.invokevirtual 133, 3) := by decide +kernel
theorem dX8_appeal_15 : decode cX8_appeal 15 = .ok (.ifnonnull 13, 3) := by decide +kernel
theorem dX8_appeal_18 : decode cX8_appeal 18 = .ok (.new 96, 3) := by decide +kernel
theorem dX8_appeal_21 : decode cX8_appeal 21 = .ok (.dup, 1) := by decide +kernel
theorem dX8_appeal_22 : decode cX8_appeal 22 = .ok (.ldc 247, 2) := by decide +kernel
theorem dX8_appeal_24 : decode cX8_appeal 24 = .ok (.invokespecial 100, 3) := by decide +kernel
theorem dX8_appeal_27 : decode cX8_appeal 27 = .ok (.athrow, 1) := by decide +kernel
theorem dX8_appeal_28 : decode cX8_appeal 28 = .ok (.aload_n 3, 1) := by decide +kernel
theorem dX8_appeal_29 : decode cX8_appeal 29 = .ok (.invokevirtual 205, 3) := by decide +kernel
theorem dX8_appeal_32 : decode cX8_appeal 32 = .ok (.ifCond .eq 19, 3) := by decide +kernel
theorem dX8_appeal_35 : decode cX8_appeal 35 = .ok (.aload_n 3, 1) := by decide +kernel
theorem dX8_appeal_36 : decode cX8_appeal 36 = .ok (.getfield 249, 3) := by decide +kernel
theorem dX8_appeal_39 : decode cX8_appeal 39 = .ok (.iconst (-1), 1) := by decide +kernel
theorem dX8_appeal_40 : decode cX8_appeal 40 = .ok (.if_icmp .ne 11, 3) := by decide +kernel
theorem dX8_appeal_43 : decode cX8_appeal 43 = .ok (.iload_n 2, 1) := by decide +kernel
theorem dX8_appeal_44 : decode cX8_appeal 44 = .ok (.aload_n 3, 1) := by decide +kernel
theorem dX8_appeal_45 : decode cX8_appeal 45 = .ok (.getfield 252, 3) := by decide +kernel
theorem dX8_appeal_48 : decode cX8_appeal 48 = .ok (.if_icmp .ne 13, 3) := by decide +kernel
theorem dX8_appeal_51 : decode cX8_appeal 51 = .ok (.new 64, 3) := by decide +kernel
theorem dX8_appeal_54 : decode cX8_appeal 54 = .ok (.dup, 1) := by decide +kernel
theorem dX8_appeal_55 : decode cX8_appeal 55 = .ok (.ldc 255, 2) := by decide +kernel
theorem dX8_appeal_57 : decode cX8_appeal 57 = .ok (.invokespecial 68, 3) := by decide +kernel
theorem dX8_appeal_60 : decode cX8_appeal 60 = .ok (.athrow, 1) := by decide +kernel
theorem dX8_appeal_61 : decode cX8_appeal 61 = .ok (.aload_n 3, 1) := by decide +kernel
theorem dX8_appeal_62 : decode cX8_appeal 62 = .ok (.iload_n 2, 1) := by decide +kernel
theorem dX8_appeal_63 : decode cX8_appeal 63 = .ok (.putfield 249, 3) := by decide +kernel
theorem dX8_appeal_66 : decode cX8_appeal 66 = .ok (.aload_n 0, 1) := by decide +kernel
theorem dX8_appeal_67 : decode cX8_appeal 67 = .ok (.aload_n 3, 1) := by decide +kernel
theorem dX8_appeal_68 : decode cX8_appeal 68 = .ok (.invokevirtual 257, 3) := by decide +kernel
theorem dX8_appeal_71 : decode cX8_appeal 71 = .ok (.ireturn, 1) := by decide +kernel
set_option maxRecDepth 20000 in
theorem ggX8_prompt_X8_duelAt : GoodIn wsX8_prompt wsX8_duelAt := goodIn_r _ [7, 8, 15, 16, 17, 18, 19, 20, 21, 22, 23, 24] (by decide +kernel) (by decide +kernel)
set_option maxRecDepth 20000 in
theorem gX8_prompt_X8_duelAt : GoodIn wsX8_prompt (wsV RX8 186 RX8 yX8_duelAt wsX8_duelAt) := goodIn_app (goodIn_of _ (by decide +kernel)) ggX8_prompt_X8_duelAt
set_option maxRecDepth 20000 in
theorem ggX8_prompt_X0_promptAt : GoodIn wsX8_prompt wsX0_promptAt := goodIn_r _ [13, 14, 25, 26, 27, 28, 29, 30, 31, 32, 33, 34] (by decide +kernel) (by decide +kernel)
set_option maxRecDepth 20000 in
theorem gX8_prompt_X0_promptAt : GoodIn wsX8_prompt (wsV RX8 197 RX0 yX0_promptAt wsX0_promptAt) := goodIn_app (goodIn_of _ (by decide +kernel)) ggX8_prompt_X0_promptAt
theorem dX8_prompt_0 : decode cX8_prompt 0 = .ok (.aload_n 0, 1) := by decide +kernel
theorem dX8_prompt_1 : decode cX8_prompt 1 = .ok (.iload_n 1, 1) := by decide +kernel
theorem dX8_prompt_2 : decode cX8_prompt 2 = .ok (.invokevirtual 186, 3) := by decide +kernel
theorem dX8_prompt_5 : decode cX8_prompt 5 = .ok (.astore_n 3, 1) := by decide +kernel
theorem dX8_prompt_6 : decode cX8_prompt 6 = .ok (.aload_n 3, 1) := by decide +kernel
theorem dX8_prompt_7 : decode cX8_prompt 7 = .ok (.ifnonnull 7, 3) := by decide +kernel
theorem dX8_prompt_10 : decode cX8_prompt 10 = .ok (.iconst (-1), 1) := by decide +kernel
theorem dX8_prompt_11 : decode cX8_prompt 11 = .ok (.goto 8, 3) := by decide +kernel
theorem dX8_prompt_14 : decode cX8_prompt 14 = .ok (.aload_n 3, 1) := by decide +kernel
theorem dX8_prompt_15 : decode cX8_prompt 15 = .ok (.iload_n 2, 1) := by decide +kernel
theorem dX8_prompt_16 : decode cX8_prompt 16 = .ok (.invokevirtual 197, 3) := by decide +kernel
theorem dX8_prompt_19 : decode cX8_prompt 19 = .ok (.istore 4, 2) := by decide +kernel
theorem dX8_prompt_21 : decode cX8_prompt 21 = .ok (.iload 4, 2) := by decide +kernel
theorem dX8_prompt_23 : decode cX8_prompt 23 = .ok (.iconst (-1), 1) := by decide +kernel
theorem dX8_prompt_24 : decode cX8_prompt 24 = .ok (.if_icmp .ne 14, 3) := by decide +kernel
theorem dX8_prompt_27 : decode cX8_prompt 27 = .ok (.new 96, 3) := by decide +kernel
theorem dX8_prompt_30 : decode cX8_prompt 30 = .ok (.dup, 1) := by decide +kernel
theorem dX8_prompt_31 : decode cX8_prompt 31 = .ok (.ldc_w 261, 3) := by decide +kernel
theorem dX8_prompt_34 : decode cX8_prompt 34 = .ok (.invokespecial 100, 3) := by decide +kernel
theorem dX8_prompt_37 : decode cX8_prompt 37 = .ok (.athrow, 1) := by decide +kernel
theorem dX8_prompt_38 : decode cX8_prompt 38 = .ok (.iload 4, 2) := by decide +kernel
theorem dX8_prompt_40 : decode cX8_prompt 40 = .ok (.ireturn, 1) := by decide +kernel
set_option maxRecDepth 20000 in
theorem ggX8_mark_X8_signAt : GoodIn wsX8_mark wsX8_signAt := goodIn_r _ [11, 12, 90, 91, 92, 93, 94, 95, 96, 97, 98, 99] (by decide +kernel) (by decide +kernel)
set_option maxRecDepth 20000 in
theorem gX8_mark_X8_signAt : GoodIn wsX8_mark (wsV RX8 201 RX8 yX8_signAt wsX8_signAt) := goodIn_app (goodIn_of _ (by decide +kernel)) ggX8_mark_X8_signAt
set_option maxRecDepth 20000 in
theorem ggX8_mark_X8_styleAt : GoodIn wsX8_mark wsX8_styleAt := goodIn_r _ [16, 17, 90, 91, 92, 93, 94, 95, 96, 97, 98, 99] (by decide +kernel) (by decide +kernel)
set_option maxRecDepth 20000 in
theorem gX8_mark_X8_styleAt : GoodIn wsX8_mark (wsV RX8 116 RX8 yX8_styleAt wsX8_styleAt) := goodIn_app (goodIn_of _ (by decide +kernel)) ggX8_mark_X8_styleAt
set_option maxRecDepth 20000 in
theorem ggX8_mark_X7_init : GoodIn wsX8_mark wsX7_init := goodIn_r _ [20, 21, 22, 23, 24, 25, 26, 27, 28, 29, 30, 31, 32, 33, 34, 35, 36, 37, 38, 39, 40, 41, 42, 43, 44, 45, 46, 47, 48, 49, 50, 51, 52, 53, 54, 55, 56, 57, 58, 59, 60, 61, 62, 63, 64, 65, 66, 67, 68, 69, 70, 71, 72, 73, 86, 87, 88, 89, 100, 101, 102, 103, 104, 105, 106, 107, 108] (by decide +kernel) (by decide +kernel)
set_option maxRecDepth 20000 in
theorem gX8_mark_X7_init : GoodIn wsX8_mark (wsX7_init) := ggX8_mark_X7_init
set_option maxRecDepth 20000 in
theorem ggX8_mark_X7_markBy : GoodIn wsX8_mark wsX7_markBy := goodIn_r _ [77, 27, 25, 78, 79, 80, 31, 81, 82, 71, 83, 72, 84, 73, 85, 86, 87, 88, 89, 109, 110, 111, 102, 103, 104] (by decide +kernel) (by decide +kernel)
set_option maxRecDepth 20000 in
theorem gX8_mark_X7_markBy : GoodIn wsX8_mark (wsV RX8 265 RX7 yX7_markBy wsX7_markBy) := goodIn_app (goodIn_of _ (by decide +kernel)) ggX8_mark_X7_markBy
theorem dX8_mark_0 : decode cX8_mark 0 = .ok (.aload_n 0, 1) := by decide +kernel
theorem dX8_mark_1 : decode cX8_mark 1 = .ok (.iload_n 1, 1) := by decide +kernel
theorem dX8_mark_2 : decode cX8_mark 2 = .ok (.invokevirtual 201, 3) := by decide +kernel
theorem dX8_mark_5 : decode cX8_mark 5 = .ok (.astore_n 3, 1) := by decide +kernel
theorem dX8_mark_6 : decode cX8_mark 6 = .ok (.aload_n 0, 1) := by decide +kernel
theorem dX8_mark_7 : decode cX8_mark 7 = .ok (.iload_n 2, 1) := by decide +kernel
theorem dX8_mark_8 : decode cX8_mark 8 = .ok (.invokevirtual 116, 3) := by decide +kernel
theorem dX8_mark_11 : decode cX8_mark 11 = .ok (.astore 4, 2) := by decide +kernel
theorem dX8_mark_13 : decode cX8_mark 13 = .ok (.aload_n 3, 1) := by decide +kernel
theorem dX8_mark_14 : decode cX8_mark 14 = .ok (.ifnull 8, 3) := by decide +kernel
theorem dX8_mark_17 : decode cX8_mark 17 = .ok (.aload 4, 2) := by decide +kernel
theorem dX8_mark_19 : decode cX8_mark 19 = .ok (.ifnonnull 14, 3) := by decide +kernel
theorem dX8_mark_22 : decode cX8_mark 22 = .ok (.new 96, 3) := by decide +kernel
theorem dX8_mark_25 : decode cX8_mark 25 = .ok (.dup, 1) := by decide +kernel
theorem dX8_mark_26 : decode cX8_mark 26 = .ok (.ldc_w 263, 3) := by decide +kernel
theorem dX8_mark_29 : decode cX8_mark 29 = .ok (.invokespecial 100, 3) := by decide +kernel
theorem dX8_mark_32 : decode cX8_mark 32 = .ok (.athrow, 1) := by decide +kernel
theorem dX8_mark_33 : decode cX8_mark 33 = .ok (.new 226, 3) := by decide +kernel
theorem dX8_mark_36 : decode cX8_mark 36 = .ok (.dup, 1) := by decide +kernel
theorem dX8_mark_37 : decode cX8_mark 37 = .ok (.aload_n 0, 1) := by decide +kernel
theorem dX8_mark_38 : decode cX8_mark 38 = .ok (.getfield 40, 3) := by decide +kernel
theorem dX8_mark_41 : decode cX8_mark 41 = .ok (.aload_n 3, 1) := by decide +kernel
theorem dX8_mark_42 : decode cX8_mark 42 = .ok (.iconst 0, 1) := by decide +kernel
theorem dX8_mark_43 : decode cX8_mark 43 = .ok (.iconst 0, 1) := by decide +kernel
theorem dX8_mark_44 : decode cX8_mark 44 = .ok (.invokespecial 228, 3) := by decide +kernel
theorem dX8_mark_47 : decode cX8_mark 47 = .ok (.aload 4, 2) := by decide +kernel
theorem dX8_mark_49 : decode cX8_mark 49 = .ok (.invokevirtual 265, 3) := by decide +kernel
theorem dX8_mark_52 : decode cX8_mark 52 = .ok (.freturn, 1) := by decide +kernel
set_option maxRecDepth 20000 in
theorem ggX8_part_X8_signAt : GoodIn wsX8_part wsX8_signAt := goodIn_r _ [13, 14, 62, 63, 64, 65, 66, 67, 68, 69, 70, 71] (by decide +kernel) (by decide +kernel)
set_option maxRecDepth 20000 in
theorem gX8_part_X8_signAt : GoodIn wsX8_part (wsV RX8 201 RX8 yX8_signAt wsX8_signAt) := goodIn_app (goodIn_of _ (by decide +kernel)) ggX8_part_X8_signAt
set_option maxRecDepth 20000 in
theorem ggX8_part_X3_between : GoodIn wsX8_part wsX3_between := goodIn_r _ [18, 19, 20, 21, 22, 17, 23, 24, 25, 26, 27, 28, 29, 30, 31, 32, 33, 34, 35, 36, 37, 38, 39, 40, 41, 42, 43, 44, 45, 46, 47, 48, 49, 50, 51, 52, 53, 54, 55, 56, 57, 58, 59, 60, 61, 75, 76, 72, 73, 74, 77, 78, 79, 80] (by decide +kernel) (by decide +kernel)
set_option maxRecDepth 20000 in
theorem gX8_part_X3_between : GoodIn wsX8_part (va_wsS RX8 269 yX3_between wsX3_between) := goodIn_app (goodIn_of _ (by decide +kernel)) ggX8_part_X3_between
theorem dX8_part_0 : decode cX8_part 0 = .ok (.aload_n 0, 1) := by decide +kernel
theorem dX8_part_1 : decode cX8_part 1 = .ok (.iload_n 1, 1) := by decide +kernel
theorem dX8_part_2 : decode cX8_part 2 = .ok (.invokevirtual 201, 3) := by decide +kernel
theorem dX8_part_5 : decode cX8_part 5 = .ok (.astore 4, 2) := by decide +kernel
theorem dX8_part_7 : decode cX8_part 7 = .ok (.aload 4, 2) := by decide +kernel
theorem dX8_part_9 : decode cX8_part 9 = .ok (.ifnonnull 7, 3) := by decide +kernel
theorem dX8_part_12 : decode cX8_part 12 = .ok (.aconst_null, 1) := by decide +kernel
theorem dX8_part_13 : decode cX8_part 13 = .ok (.goto 14, 3) := by decide +kernel
theorem dX8_part_16 : decode cX8_part 16 = .ok (.aload_n 0, 1) := by decide +kernel
theorem dX8_part_17 : decode cX8_part 17 = .ok (.getfield 40, 3) := by decide +kernel
theorem dX8_part_20 : decode cX8_part 20 = .ok (.aload 4, 2) := by decide +kernel
theorem dX8_part_22 : decode cX8_part 22 = .ok (.iload_n 2, 1) := by decide +kernel
theorem dX8_part_23 : decode cX8_part 23 = .ok (.iconst 0, 1) := by decide +kernel
theorem dX8_part_24 : decode cX8_part 24 = .ok (.invokestatic 269, 3) := by decide +kernel
theorem dX8_part_27 : decode cX8_part 27 = .ok (.astore 5, 2) := by decide +kernel
theorem dX8_part_29 : decode cX8_part 29 = .ok (.aload 5, 2) := by decide +kernel
theorem dX8_part_31 : decode cX8_part 31 = .ok (.ifnonnull 14, 3) := by decide +kernel
theorem dX8_part_34 : decode cX8_part 34 = .ok (.new 96, 3) := by decide +kernel
theorem dX8_part_37 : decode cX8_part 37 = .ok (.dup, 1) := by decide +kernel
theorem dX8_part_38 : decode cX8_part 38 = .ok (.ldc_w 275, 3) := by decide +kernel
theorem dX8_part_41 : decode cX8_part 41 = .ok (.invokespecial 100, 3) := by decide +kernel
theorem dX8_part_44 : decode cX8_part 44 = .ok (.athrow, 1) := by decide +kernel
theorem dX8_part_45 : decode cX8_part 45 = .ok (.iload_n 3, 1) := by decide +kernel
theorem dX8_part_46 : decode cX8_part 46 = .ok (.tableswitch 44 0 2 #[26, 32, 38], 26) := by decide +kernel
theorem dX8_part_72 : decode cX8_part 72 = .ok (.aload 5, 2) := by decide +kernel
theorem dX8_part_74 : decode cX8_part 74 = .ok (.getfield 277, 3) := by decide +kernel
theorem dX8_part_77 : decode cX8_part 77 = .ok (.freturn, 1) := by decide +kernel
theorem dX8_part_78 : decode cX8_part 78 = .ok (.aload 5, 2) := by decide +kernel
theorem dX8_part_80 : decode cX8_part 80 = .ok (.getfield 280, 3) := by decide +kernel
theorem dX8_part_83 : decode cX8_part 83 = .ok (.freturn, 1) := by decide +kernel
theorem dX8_part_84 : decode cX8_part 84 = .ok (.aload 5, 2) := by decide +kernel
theorem dX8_part_86 : decode cX8_part 86 = .ok (.getfield 282, 3) := by decide +kernel
theorem dX8_part_89 : decode cX8_part 89 = .ok (.freturn, 1) := by decide +kernel
theorem dX8_part_90 : decode cX8_part 90 = .ok (.new 51, 3) := by decide +kernel
theorem dX8_part_93 : decode cX8_part 93 = .ok (.dup, 1) := by decide +kernel
theorem dX8_part_94 : decode cX8_part 94 = .ok (.ldc_w 284, 3) := by decide +kernel
theorem dX8_part_97 : decode cX8_part 97 = .ok (.invokespecial 55, 3) := by decide +kernel
theorem dX8_part_100 : decode cX8_part 100 = .ok (.athrow, 1) := by decide +kernel
set_option maxRecDepth 20000 in
theorem ggX8_marked_X8_duelAt : GoodIn wsX8_marked wsX8_duelAt := goodIn_r _ [7, 8, 57, 58, 59, 60, 61, 62, 63, 64, 65, 66] (by decide +kernel) (by decide +kernel)
set_option maxRecDepth 20000 in
theorem gX8_marked_X8_duelAt : GoodIn wsX8_marked (wsV RX8 186 RX8 yX8_duelAt wsX8_duelAt) := goodIn_app (goodIn_of _ (by decide +kernel)) ggX8_marked_X8_duelAt
set_option maxRecDepth 20000 in
theorem ggX8_marked_X0_writingAt : GoodIn wsX8_marked wsX0_writingAt := goodIn_r _ [13, 14, 67, 68, 69, 70, 71, 72, 73, 74, 75, 76] (by decide +kernel) (by decide +kernel)
set_option maxRecDepth 20000 in
theorem gX8_marked_X0_writingAt : GoodIn wsX8_marked (wsV RX8 234 RX0 yX0_writingAt wsX0_writingAt) := goodIn_app (goodIn_of _ (by decide +kernel)) ggX8_marked_X0_writingAt
set_option maxRecDepth 20000 in
theorem ggX8_marked_X8_judgedMark : GoodIn wsX8_marked wsX8_judgedMark := goodIn_r _ [18, 19, 20, 21, 22, 23, 24, 6, 25, 26, 27, 28, 29, 30, 31, 32, 33, 34, 35, 36, 37, 38, 39, 40, 41, 42, 43, 44, 45, 46, 47, 48, 49, 50, 51, 52, 53, 54, 55, 56, 67, 68, 69, 70, 71, 72, 73, 74, 75, 76, 57, 58, 59, 60, 61, 62, 63, 64, 65, 66, 77, 78, 79, 80, 81, 82, 83, 84, 85, 86, 87] (by decide +kernel) (by decide +kernel)
set_option maxRecDepth 20000 in
theorem gX8_marked_X8_judgedMark : GoodIn wsX8_marked (wsV RX8 286 RX8 yX8_judgedMark wsX8_judgedMark) := goodIn_app (goodIn_of _ (by decide +kernel)) ggX8_marked_X8_judgedMark
theorem dX8_marked_0 : decode cX8_marked 0 = .ok (.aload_n 0, 1) := by decide +kernel
theorem dX8_marked_1 : decode cX8_marked 1 = .ok (.iload_n 1, 1) := by decide +kernel
theorem dX8_marked_2 : decode cX8_marked 2 = .ok (.invokevirtual 186, 3) := by decide +kernel
theorem dX8_marked_5 : decode cX8_marked 5 = .ok (.astore 4, 2) := by decide +kernel
theorem dX8_marked_7 : decode cX8_marked 7 = .ok (.aload 4, 2) := by decide +kernel
theorem dX8_marked_9 : decode cX8_marked 9 = .ok (.ifnonnull 7, 3) := by decide +kernel
theorem dX8_marked_12 : decode cX8_marked 12 = .ok (.aconst_null, 1) := by decide +kernel
theorem dX8_marked_13 : decode cX8_marked 13 = .ok (.goto 10, 3) := by decide +kernel
theorem dX8_marked_16 : decode cX8_marked 16 = .ok (.aload 4, 2) := by decide +kernel
