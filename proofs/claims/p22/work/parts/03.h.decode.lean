theorem dX8_marked_18 : decode cX8_marked 18 = .ok (.iload_n 2, 1) := by decide +kernel
theorem dX8_marked_19 : decode cX8_marked 19 = .ok (.iload_n 3, 1) := by decide +kernel
theorem dX8_marked_20 : decode cX8_marked 20 = .ok (.invokevirtual 234, 3) := by decide +kernel
theorem dX8_marked_23 : decode cX8_marked 23 = .ok (.astore 5, 2) := by decide +kernel
theorem dX8_marked_25 : decode cX8_marked 25 = .ok (.aload 5, 2) := by decide +kernel
theorem dX8_marked_27 : decode cX8_marked 27 = .ok (.ifnonnull 13, 3) := by decide +kernel
theorem dX8_marked_30 : decode cX8_marked 30 = .ok (.new 96, 3) := by decide +kernel
theorem dX8_marked_33 : decode cX8_marked 33 = .ok (.dup, 1) := by decide +kernel
theorem dX8_marked_34 : decode cX8_marked 34 = .ok (.ldc 238, 2) := by decide +kernel
theorem dX8_marked_36 : decode cX8_marked 36 = .ok (.invokespecial 100, 3) := by decide +kernel
theorem dX8_marked_39 : decode cX8_marked 39 = .ok (.athrow, 1) := by decide +kernel
theorem dX8_marked_40 : decode cX8_marked 40 = .ok (.aload_n 0, 1) := by decide +kernel
theorem dX8_marked_41 : decode cX8_marked 41 = .ok (.aload 4, 2) := by decide +kernel
theorem dX8_marked_43 : decode cX8_marked 43 = .ok (.aload 5, 2) := by decide +kernel
theorem dX8_marked_45 : decode cX8_marked 45 = .ok (.invokevirtual 286, 3) := by decide +kernel
theorem dX8_marked_48 : decode cX8_marked 48 = .ok (.freturn, 1) := by decide +kernel
set_option maxRecDepth 20000 in
theorem ggX8_of_X8_duelAt : GoodIn wsX8_of wsX8_duelAt := goodIn_r _ [12, 13, 91, 92, 93, 94, 95, 96, 97, 98, 99, 100] (by decide +kernel) (by decide +kernel)
set_option maxRecDepth 20000 in
theorem gX8_of_X8_duelAt : GoodIn wsX8_of (wsV RX8 186 RX8 yX8_duelAt wsX8_duelAt) := goodIn_app (goodIn_of _ (by decide +kernel)) ggX8_of_X8_duelAt
set_option maxRecDepth 20000 in
theorem ggX8_of_X8_countRounds : GoodIn wsX8_of wsX8_countRounds := goodIn_r _ [17, 18, 19, 20, 11, 21, 22, 23, 24, 25, 26, 27, 28, 29, 30, 31, 32, 33, 6, 7, 34, 35, 36, 37, 38, 39, 40, 41, 42, 43, 44, 45, 46, 47, 48, 49, 50, 51, 52, 53, 54, 55, 56, 57, 58, 59, 60, 61, 62, 63, 64, 65, 66, 67, 68, 101, 102, 103, 104, 81, 82, 83, 84, 85, 86, 87, 88, 89, 90, 91, 92, 93, 94, 95, 96, 97, 98, 99, 100, 105, 106, 107, 108, 109, 110, 111] (by decide +kernel) (by decide +kernel)
set_option maxRecDepth 20000 in
theorem gX8_of_X8_countRounds : GoodIn wsX8_of (wsV RX8 290 RX8 yX8_countRounds wsX8_countRounds) := goodIn_app (goodIn_of _ (by decide +kernel)) ggX8_of_X8_countRounds
set_option maxRecDepth 20000 in
theorem ggX8_of_X8_winnerOf : GoodIn wsX8_of wsX8_winnerOf := goodIn_r _ [72, 73, 74, 75, 76, 77, 26, 78, 79, 80, 18, 19, 20, 11, 21, 22, 23, 24, 25, 27, 28, 29, 30, 31, 32, 33, 6, 7, 34, 35, 36, 37, 38, 39, 40, 41, 42, 43, 44, 45, 46, 47, 48, 49, 50, 51, 52, 53, 54, 55, 56, 57, 58, 59, 60, 61, 62, 63, 64, 65, 66, 67, 68, 81, 82, 83, 84, 85, 86, 87, 88, 89, 90, 101, 102, 103, 104, 91, 92, 93, 94, 95, 96, 97, 98, 99, 100, 105, 106, 107, 108, 109, 110, 111] (by decide +kernel) (by decide +kernel)
set_option maxRecDepth 20000 in
theorem gX8_of_X8_winnerOf : GoodIn wsX8_of (wsV RX8 257 RX8 yX8_winnerOf wsX8_winnerOf) := goodIn_app (goodIn_of _ (by decide +kernel)) ggX8_of_X8_winnerOf
theorem dX8_of_0 : decode cX8_of 0 = .ok (.aload_n 0, 1) := by decide +kernel
theorem dX8_of_1 : decode cX8_of 1 = .ok (.iload_n 1, 1) := by decide +kernel
theorem dX8_of_2 : decode cX8_of 2 = .ok (.invokevirtual 186, 3) := by decide +kernel
theorem dX8_of_5 : decode cX8_of 5 = .ok (.astore_n 3, 1) := by decide +kernel
theorem dX8_of_6 : decode cX8_of 6 = .ok (.aload_n 3, 1) := by decide +kernel
theorem dX8_of_7 : decode cX8_of 7 = .ok (.ifnonnull 13, 3) := by decide +kernel
theorem dX8_of_10 : decode cX8_of 10 = .ok (.new 96, 3) := by decide +kernel
theorem dX8_of_13 : decode cX8_of 13 = .ok (.dup, 1) := by decide +kernel
theorem dX8_of_14 : decode cX8_of 14 = .ok (.ldc 190, 2) := by decide +kernel
theorem dX8_of_16 : decode cX8_of 16 = .ok (.invokespecial 100, 3) := by decide +kernel
theorem dX8_of_19 : decode cX8_of 19 = .ok (.athrow, 1) := by decide +kernel
theorem dX8_of_20 : decode cX8_of 20 = .ok (.iload_n 2, 1) := by decide +kernel
theorem dX8_of_21 : decode cX8_of 21 = .ok (.tableswitch 74 0 5 #[39, 44, 51, 58, 64, 69], 39) := by decide +kernel
theorem dX8_of_60 : decode cX8_of 60 = .ok (.aload_n 3, 1) := by decide +kernel
theorem dX8_of_61 : decode cX8_of 61 = .ok (.getfield 194, 3) := by decide +kernel
theorem dX8_of_64 : decode cX8_of 64 = .ok (.ireturn, 1) := by decide +kernel
theorem dX8_of_65 : decode cX8_of 65 = .ok (.aload_n 0, 1) := by decide +kernel
theorem dX8_of_66 : decode cX8_of 66 = .ok (.aload_n 3, 1) := by decide +kernel
theorem dX8_of_67 : decode cX8_of 67 = .ok (.iconst 1, 1) := by decide +kernel
theorem dX8_of_68 : decode cX8_of 68 = .ok (.invokevirtual 290, 3) := by decide +kernel
theorem dX8_of_71 : decode cX8_of 71 = .ok (.ireturn, 1) := by decide +kernel
theorem dX8_of_72 : decode cX8_of 72 = .ok (.aload_n 0, 1) := by decide +kernel
theorem dX8_of_73 : decode cX8_of 73 = .ok (.aload_n 3, 1) := by decide +kernel
theorem dX8_of_74 : decode cX8_of 74 = .ok (.iconst (-1), 1) := by decide +kernel
theorem dX8_of_75 : decode cX8_of 75 = .ok (.invokevirtual 290, 3) := by decide +kernel
theorem dX8_of_78 : decode cX8_of 78 = .ok (.ireturn, 1) := by decide +kernel
theorem dX8_of_79 : decode cX8_of 79 = .ok (.aload_n 0, 1) := by decide +kernel
theorem dX8_of_80 : decode cX8_of 80 = .ok (.aload_n 3, 1) := by decide +kernel
theorem dX8_of_81 : decode cX8_of 81 = .ok (.invokevirtual 257, 3) := by decide +kernel
theorem dX8_of_84 : decode cX8_of 84 = .ok (.ireturn, 1) := by decide +kernel
theorem dX8_of_85 : decode cX8_of 85 = .ok (.aload_n 3, 1) := by decide +kernel
theorem dX8_of_86 : decode cX8_of 86 = .ok (.getfield 294, 3) := by decide +kernel
theorem dX8_of_89 : decode cX8_of 89 = .ok (.ireturn, 1) := by decide +kernel
theorem dX8_of_90 : decode cX8_of 90 = .ok (.aload_n 3, 1) := by decide +kernel
theorem dX8_of_91 : decode cX8_of 91 = .ok (.getfield 249, 3) := by decide +kernel
theorem dX8_of_94 : decode cX8_of 94 = .ok (.ireturn, 1) := by decide +kernel
theorem dX8_of_95 : decode cX8_of 95 = .ok (.new 51, 3) := by decide +kernel
theorem dX8_of_98 : decode cX8_of 98 = .ok (.dup, 1) := by decide +kernel
theorem dX8_of_99 : decode cX8_of 99 = .ok (.ldc_w 284, 3) := by decide +kernel
theorem dX8_of_102 : decode cX8_of 102 = .ok (.invokespecial 55, 3) := by decide +kernel
theorem dX8_of_105 : decode cX8_of 105 = .ok (.athrow, 1) := by decide +kernel
set_option maxRecDepth 20000 in
theorem ggX8_paper_X8_paperAt : GoodIn wsX8_paper wsX8_paperAt := goodIn_r _ [11, 12, 16, 17, 18, 19, 20, 21, 22, 23, 24, 25] (by decide +kernel) (by decide +kernel)
set_option maxRecDepth 20000 in
theorem gX8_paper_X8_paperAt : GoodIn wsX8_paper (wsV RX8 92 RX8 yX8_paperAt wsX8_paperAt) := goodIn_app (goodIn_of _ (by decide +kernel)) ggX8_paper_X8_paperAt
theorem dX8_paper_0 : decode cX8_paper 0 = .ok (.aload_n 0, 1) := by decide +kernel
theorem dX8_paper_1 : decode cX8_paper 1 = .ok (.iload_n 1, 1) := by decide +kernel
theorem dX8_paper_2 : decode cX8_paper 2 = .ok (.invokevirtual 92, 3) := by decide +kernel
theorem dX8_paper_5 : decode cX8_paper 5 = .ok (.astore_n 3, 1) := by decide +kernel
theorem dX8_paper_6 : decode cX8_paper 6 = .ok (.aload_n 3, 1) := by decide +kernel
theorem dX8_paper_7 : decode cX8_paper 7 = .ok (.ifnonnull 13, 3) := by decide +kernel
theorem dX8_paper_10 : decode cX8_paper 10 = .ok (.new 96, 3) := by decide +kernel
theorem dX8_paper_13 : decode cX8_paper 13 = .ok (.dup, 1) := by decide +kernel
theorem dX8_paper_14 : decode cX8_paper 14 = .ok (.ldc 98, 2) := by decide +kernel
theorem dX8_paper_16 : decode cX8_paper 16 = .ok (.invokespecial 100, 3) := by decide +kernel
theorem dX8_paper_19 : decode cX8_paper 19 = .ok (.athrow, 1) := by decide +kernel
theorem dX8_paper_20 : decode cX8_paper 20 = .ok (.iload_n 2, 1) := by decide +kernel
theorem dX8_paper_21 : decode cX8_paper 21 = .ok (.lookupswitch 37 #[(0, 27), (1, 32)], 27) := by decide +kernel
theorem dX8_paper_48 : decode cX8_paper 48 = .ok (.aload_n 3, 1) := by decide +kernel
theorem dX8_paper_49 : decode cX8_paper 49 = .ok (.getfield 103, 3) := by decide +kernel
theorem dX8_paper_52 : decode cX8_paper 52 = .ok (.ireturn, 1) := by decide +kernel
theorem dX8_paper_53 : decode cX8_paper 53 = .ok (.aload_n 3, 1) := by decide +kernel
theorem dX8_paper_54 : decode cX8_paper 54 = .ok (.getfield 113, 3) := by decide +kernel
theorem dX8_paper_57 : decode cX8_paper 57 = .ok (.ireturn, 1) := by decide +kernel
theorem dX8_paper_58 : decode cX8_paper 58 = .ok (.new 51, 3) := by decide +kernel
theorem dX8_paper_61 : decode cX8_paper 61 = .ok (.dup, 1) := by decide +kernel
theorem dX8_paper_62 : decode cX8_paper 62 = .ok (.ldc_w 284, 3) := by decide +kernel
theorem dX8_paper_65 : decode cX8_paper 65 = .ok (.invokespecial 55, 3) := by decide +kernel
theorem dX8_paper_68 : decode cX8_paper 68 = .ok (.athrow, 1) := by decide +kernel
set_option maxRecDepth 20000 in
theorem ggX8_won_X8_isWriter : GoodIn wsX8_won wsX8_isWriter := goodIn_r _ [7, 8, 9, 6, 10] (by decide +kernel) (by decide +kernel)
set_option maxRecDepth 20000 in
theorem gX8_won_X8_isWriter : GoodIn wsX8_won (va_wsS RX8 163 yX8_isWriter wsX8_isWriter) := goodIn_app (goodIn_of _ (by decide +kernel)) ggX8_won_X8_isWriter
set_option maxRecDepth 20000 in
theorem ggX8_won_X8_winnerOf : GoodIn wsX8_won wsX8_winnerOf := goodIn_r _ [14, 15, 16, 17, 18, 19, 20, 21, 22, 23, 24, 25, 26, 6, 27, 28, 29, 30, 31, 32, 33, 34, 35, 36, 37, 38, 39, 40, 41, 42, 43, 44, 45, 46, 47, 48, 49, 50, 51, 52, 53, 54, 55, 56, 57, 58, 59, 60, 61, 62, 63, 64, 65, 66, 67, 68, 69, 70, 71, 72, 73, 74, 75, 86, 87, 88, 89, 90, 91, 92, 93, 94, 95, 96, 97, 98, 99, 76, 77, 78, 79, 80, 81, 82, 83, 84, 85, 100, 101, 102, 103, 104, 105, 106] (by decide +kernel) (by decide +kernel)
set_option maxRecDepth 20000 in
theorem gX8_won_X8_winnerOf : GoodIn wsX8_won (wsV RX8 257 RX8 yX8_winnerOf wsX8_winnerOf) := goodIn_app (goodIn_of _ (by decide +kernel)) ggX8_won_X8_winnerOf
theorem dX8_won_0 : decode cX8_won 0 = .ok (.iload_n 1, 1) := by decide +kernel
theorem dX8_won_1 : decode cX8_won 1 = .ok (.invokestatic 163, 3) := by decide +kernel
theorem dX8_won_4 : decode cX8_won 4 = .ok (.ifCond .ne 13, 3) := by decide +kernel
theorem dX8_won_7 : decode cX8_won 7 = .ok (.new 96, 3) := by decide +kernel
theorem dX8_won_10 : decode cX8_won 10 = .ok (.dup, 1) := by decide +kernel
theorem dX8_won_11 : decode cX8_won 11 = .ok (.ldc 167, 2) := by decide +kernel
theorem dX8_won_13 : decode cX8_won 13 = .ok (.invokespecial 100, 3) := by decide +kernel
theorem dX8_won_16 : decode cX8_won 16 = .ok (.athrow, 1) := by decide +kernel
theorem dX8_won_17 : decode cX8_won 17 = .ok (.iconst 0, 1) := by decide +kernel
theorem dX8_won_18 : decode cX8_won 18 = .ok (.istore_n 2, 1) := by decide +kernel
theorem dX8_won_19 : decode cX8_won 19 = .ok (.iconst 0, 1) := by decide +kernel
theorem dX8_won_20 : decode cX8_won 20 = .ok (.istore_n 3, 1) := by decide +kernel
theorem dX8_won_21 : decode cX8_won 21 = .ok (.iload_n 3, 1) := by decide +kernel
theorem dX8_won_22 : decode cX8_won 22 = .ok (.aload_n 0, 1) := by decide +kernel
theorem dX8_won_23 : decode cX8_won 23 = .ok (.getfield 35, 3) := by decide +kernel
theorem dX8_won_26 : decode cX8_won 26 = .ok (.arraylength, 1) := by decide +kernel
theorem dX8_won_27 : decode cX8_won 27 = .ok (.if_icmp .ge 35, 3) := by decide +kernel
theorem dX8_won_30 : decode cX8_won 30 = .ok (.aload_n 0, 1) := by decide +kernel
theorem dX8_won_31 : decode cX8_won 31 = .ok (.getfield 35, 3) := by decide +kernel
theorem dX8_won_34 : decode cX8_won 34 = .ok (.iload_n 3, 1) := by decide +kernel
theorem dX8_won_35 : decode cX8_won 35 = .ok (.aaload, 1) := by decide +kernel
theorem dX8_won_36 : decode cX8_won 36 = .ok (.ifnull 20, 3) := by decide +kernel
theorem dX8_won_39 : decode cX8_won 39 = .ok (.aload_n 0, 1) := by decide +kernel
theorem dX8_won_40 : decode cX8_won 40 = .ok (.aload_n 0, 1) := by decide +kernel
theorem dX8_won_41 : decode cX8_won 41 = .ok (.getfield 35, 3) := by decide +kernel
theorem dX8_won_44 : decode cX8_won 44 = .ok (.iload_n 3, 1) := by decide +kernel
theorem dX8_won_45 : decode cX8_won 45 = .ok (.aaload, 1) := by decide +kernel
theorem dX8_won_46 : decode cX8_won 46 = .ok (.invokevirtual 257, 3) := by decide +kernel
theorem dX8_won_49 : decode cX8_won 49 = .ok (.iload_n 1, 1) := by decide +kernel
theorem dX8_won_50 : decode cX8_won 50 = .ok (.if_icmp .ne 6, 3) := by decide +kernel
theorem dX8_won_53 : decode cX8_won 53 = .ok (.iinc 2 1, 3) := by decide +kernel
theorem dX8_won_56 : decode cX8_won 56 = .ok (.iinc 3 1, 3) := by decide +kernel
theorem dX8_won_59 : decode cX8_won 59 = .ok (.goto (-38), 3) := by decide +kernel
theorem dX8_won_62 : decode cX8_won 62 = .ok (.iload_n 2, 1) := by decide +kernel
theorem dX8_won_63 : decode cX8_won 63 = .ok (.ireturn, 1) := by decide +kernel
theorem dX8_isWithin_0 : decode cX8_isWithin 0 = .ok (.iload_n 0, 1) := by decide +kernel
theorem dX8_isWithin_1 : decode cX8_isWithin 1 = .ok (.iload_n 1, 1) := by decide +kernel
theorem dX8_isWithin_2 : decode cX8_isWithin 2 = .ok (.if_icmp .lt 12, 3) := by decide +kernel
theorem dX8_isWithin_5 : decode cX8_isWithin 5 = .ok (.iload_n 0, 1) := by decide +kernel
theorem dX8_isWithin_6 : decode cX8_isWithin 6 = .ok (.iload_n 2, 1) := by decide +kernel
theorem dX8_isWithin_7 : decode cX8_isWithin 7 = .ok (.if_icmp .gt 7, 3) := by decide +kernel
theorem dX8_isWithin_10 : decode cX8_isWithin 10 = .ok (.iconst 1, 1) := by decide +kernel
theorem dX8_isWithin_11 : decode cX8_isWithin 11 = .ok (.goto 4, 3) := by decide +kernel
theorem dX8_isWithin_14 : decode cX8_isWithin 14 = .ok (.iconst 0, 1) := by decide +kernel
theorem dX8_isWithin_15 : decode cX8_isWithin 15 = .ok (.ireturn, 1) := by decide +kernel
set_option maxRecDepth 20000 in
theorem ggX8_isPlace_X8_isWithin : GoodIn wsX8_isPlace wsX8_isWithin := goodIn_r _ [4] (by decide +kernel) (by decide +kernel)
set_option maxRecDepth 20000 in
theorem gX8_isPlace_X8_isWithin : GoodIn wsX8_isPlace (va_wsS RX8 86 yX8_isWithin wsX8_isWithin) := goodIn_app (goodIn_of _ (by decide +kernel)) ggX8_isPlace_X8_isWithin
theorem dX8_isPlace_0 : decode cX8_isPlace 0 = .ok (.iload_n 0, 1) := by decide +kernel
theorem dX8_isPlace_1 : decode cX8_isPlace 1 = .ok (.iconst 0, 1) := by decide +kernel
theorem dX8_isPlace_2 : decode cX8_isPlace 2 = .ok (.bipush 99, 2) := by decide +kernel
theorem dX8_isPlace_4 : decode cX8_isPlace 4 = .ok (.invokestatic 86, 3) := by decide +kernel
theorem dX8_isPlace_7 : decode cX8_isPlace 7 = .ok (.ifCond .eq 17, 3) := by decide +kernel
theorem dX8_isPlace_10 : decode cX8_isPlace 10 = .ok (.iload_n 1, 1) := by decide +kernel
theorem dX8_isPlace_11 : decode cX8_isPlace 11 = .ok (.iconst 0, 1) := by decide +kernel
theorem dX8_isPlace_12 : decode cX8_isPlace 12 = .ok (.bipush 99, 2) := by decide +kernel
theorem dX8_isPlace_14 : decode cX8_isPlace 14 = .ok (.invokestatic 86, 3) := by decide +kernel
theorem dX8_isPlace_17 : decode cX8_isPlace 17 = .ok (.ifCond .eq 7, 3) := by decide +kernel
theorem dX8_isPlace_20 : decode cX8_isPlace 20 = .ok (.iconst 1, 1) := by decide +kernel
theorem dX8_isPlace_21 : decode cX8_isPlace 21 = .ok (.goto 4, 3) := by decide +kernel
theorem dX8_isPlace_24 : decode cX8_isPlace 24 = .ok (.iconst 0, 1) := by decide +kernel
theorem dX8_isPlace_25 : decode cX8_isPlace 25 = .ok (.ireturn, 1) := by decide +kernel
set_option maxRecDepth 20000 in
theorem ggX8_isWriter_X8_isWithin : GoodIn wsX8_isWriter wsX8_isWithin := goodIn_r _ [4] (by decide +kernel) (by decide +kernel)
set_option maxRecDepth 20000 in
theorem gX8_isWriter_X8_isWithin : GoodIn wsX8_isWriter (va_wsS RX8 86 yX8_isWithin wsX8_isWithin) := goodIn_app (goodIn_of _ (by decide +kernel)) ggX8_isWriter_X8_isWithin
theorem dX8_isWriter_0 : decode cX8_isWriter 0 = .ok (.iload_n 0, 1) := by decide +kernel
theorem dX8_isWriter_1 : decode cX8_isWriter 1 = .ok (.iconst 0, 1) := by decide +kernel
theorem dX8_isWriter_2 : decode cX8_isWriter 2 = .ok (.bipush 7, 2) := by decide +kernel
theorem dX8_isWriter_4 : decode cX8_isWriter 4 = .ok (.invokestatic 86, 3) := by decide +kernel
theorem dX8_isWriter_7 : decode cX8_isWriter 7 = .ok (.ireturn, 1) := by decide +kernel
theorem dX8_signAt_0 : decode cX8_signAt 0 = .ok (.iload_n 1, 1) := by decide +kernel
theorem dX8_signAt_1 : decode cX8_signAt 1 = .ok (.ifCond .lt 21, 3) := by decide +kernel
theorem dX8_signAt_4 : decode cX8_signAt 4 = .ok (.iload_n 1, 1) := by decide +kernel
theorem dX8_signAt_5 : decode cX8_signAt 5 = .ok (.aload_n 0, 1) := by decide +kernel
theorem dX8_signAt_6 : decode cX8_signAt 6 = .ok (.getfield 11, 3) := by decide +kernel
theorem dX8_signAt_9 : decode cX8_signAt 9 = .ok (.arraylength, 1) := by decide +kernel
theorem dX8_signAt_10 : decode cX8_signAt 10 = .ok (.if_icmp .ge 12, 3) := by decide +kernel
theorem dX8_signAt_13 : decode cX8_signAt 13 = .ok (.aload_n 0, 1) := by decide +kernel
theorem dX8_signAt_14 : decode cX8_signAt 14 = .ok (.getfield 11, 3) := by decide +kernel
theorem dX8_signAt_17 : decode cX8_signAt 17 = .ok (.iload_n 1, 1) := by decide +kernel
theorem dX8_signAt_18 : decode cX8_signAt 18 = .ok (.aaload, 1) := by decide +kernel
theorem dX8_signAt_19 : decode cX8_signAt 19 = .ok (.goto 4, 3) := by decide +kernel
theorem dX8_signAt_22 : decode cX8_signAt 22 = .ok (.aconst_null, 1) := by decide +kernel
theorem dX8_signAt_23 : decode cX8_signAt 23 = .ok (.areturn, 1) := by decide +kernel
theorem dX8_paperAt_0 : decode cX8_paperAt 0 = .ok (.iload_n 1, 1) := by decide +kernel
theorem dX8_paperAt_1 : decode cX8_paperAt 1 = .ok (.ifCond .lt 21, 3) := by decide +kernel
theorem dX8_paperAt_4 : decode cX8_paperAt 4 = .ok (.iload_n 1, 1) := by decide +kernel
theorem dX8_paperAt_5 : decode cX8_paperAt 5 = .ok (.aload_n 0, 1) := by decide +kernel
theorem dX8_paperAt_6 : decode cX8_paperAt 6 = .ok (.getfield 17, 3) := by decide +kernel
theorem dX8_paperAt_9 : decode cX8_paperAt 9 = .ok (.arraylength, 1) := by decide +kernel
theorem dX8_paperAt_10 : decode cX8_paperAt 10 = .ok (.if_icmp .ge 12, 3) := by decide +kernel
theorem dX8_paperAt_13 : decode cX8_paperAt 13 = .ok (.aload_n 0, 1) := by decide +kernel
theorem dX8_paperAt_14 : decode cX8_paperAt 14 = .ok (.getfield 17, 3) := by decide +kernel
theorem dX8_paperAt_17 : decode cX8_paperAt 17 = .ok (.iload_n 1, 1) := by decide +kernel
theorem dX8_paperAt_18 : decode cX8_paperAt 18 = .ok (.aaload, 1) := by decide +kernel
theorem dX8_paperAt_19 : decode cX8_paperAt 19 = .ok (.goto 4, 3) := by decide +kernel
theorem dX8_paperAt_22 : decode cX8_paperAt 22 = .ok (.aconst_null, 1) := by decide +kernel
theorem dX8_paperAt_23 : decode cX8_paperAt 23 = .ok (.areturn, 1) := by decide +kernel
theorem dX8_styleAt_0 : decode cX8_styleAt 0 = .ok (.iload_n 1, 1) := by decide +kernel
theorem dX8_styleAt_1 : decode cX8_styleAt 1 = .ok (.ifCond .lt 21, 3) := by decide +kernel
theorem dX8_styleAt_4 : decode cX8_styleAt 4 = .ok (.iload_n 1, 1) := by decide +kernel
theorem dX8_styleAt_5 : decode cX8_styleAt 5 = .ok (.aload_n 0, 1) := by decide +kernel
theorem dX8_styleAt_6 : decode cX8_styleAt 6 = .ok (.getfield 23, 3) := by decide +kernel
theorem dX8_styleAt_9 : decode cX8_styleAt 9 = .ok (.arraylength, 1) := by decide +kernel
theorem dX8_styleAt_10 : decode cX8_styleAt 10 = .ok (.if_icmp .ge 12, 3) := by decide +kernel
theorem dX8_styleAt_13 : decode cX8_styleAt 13 = .ok (.aload_n 0, 1) := by decide +kernel
theorem dX8_styleAt_14 : decode cX8_styleAt 14 = .ok (.getfield 23, 3) := by decide +kernel
theorem dX8_styleAt_17 : decode cX8_styleAt 17 = .ok (.iload_n 1, 1) := by decide +kernel
theorem dX8_styleAt_18 : decode cX8_styleAt 18 = .ok (.aaload, 1) := by decide +kernel
theorem dX8_styleAt_19 : decode cX8_styleAt 19 = .ok (.goto 4, 3) := by decide +kernel
theorem dX8_styleAt_22 : decode cX8_styleAt 22 = .ok (.aconst_null, 1) := by decide +kernel
theorem dX8_styleAt_23 : decode cX8_styleAt 23 = .ok (.areturn, 1) := by decide +kernel
theorem dX8_judgeAt_0 : decode cX8_judgeAt 0 = .ok (.iload_n 1, 1) := by decide +kernel
theorem dX8_judgeAt_1 : decode cX8_judgeAt 1 = .ok (.ifCond .lt 21, 3) := by decide +kernel
theorem dX8_judgeAt_4 : decode cX8_judgeAt 4 = .ok (.iload_n 1, 1) := by decide +kernel
theorem dX8_judgeAt_5 : decode cX8_judgeAt 5 = .ok (.aload_n 0, 1) := by decide +kernel
theorem dX8_judgeAt_6 : decode cX8_judgeAt 6 = .ok (.getfield 29, 3) := by decide +kernel
theorem dX8_judgeAt_9 : decode cX8_judgeAt 9 = .ok (.arraylength, 1) := by decide +kernel
theorem dX8_judgeAt_10 : decode cX8_judgeAt 10 = .ok (.if_icmp .ge 12, 3) := by decide +kernel
theorem dX8_judgeAt_13 : decode cX8_judgeAt 13 = .ok (.aload_n 0, 1) := by decide +kernel
theorem dX8_judgeAt_14 : decode cX8_judgeAt 14 = .ok (.getfield 29, 3) := by decide +kernel
