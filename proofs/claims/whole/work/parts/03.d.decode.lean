theorem dX8_judgedMark_38 : decode cX8_judgedMark 38 = .ok (.getfield 294, 3) := by decide +kernel
theorem dX8_judgedMark_41 : decode cX8_judgedMark 41 = .ok (.aload_n 2, 1) := by decide +kernel
theorem dX8_judgedMark_42 : decode cX8_judgedMark 42 = .ok (.invokevirtual 295, 3) := by decide +kernel
theorem dX8_judgedMark_45 : decode cX8_judgedMark 45 = .ok (.fstore 4, 2) := by decide +kernel
theorem dX8_judgedMark_47 : decode cX8_judgedMark 47 = .ok (.fload_n 3, 1) := by decide +kernel
theorem dX8_judgedMark_48 : decode cX8_judgedMark 48 = .ok (.fload 4, 2) := by decide +kernel
theorem dX8_judgedMark_50 : decode cX8_judgedMark 50 = .ok (.fadd, 1) := by decide +kernel
theorem dX8_judgedMark_51 : decode cX8_judgedMark 51 = .ok (.fconst 2, 1) := by decide +kernel
theorem dX8_judgedMark_52 : decode cX8_judgedMark 52 = .ok (.fdiv, 1) := by decide +kernel
theorem dX8_judgedMark_53 : decode cX8_judgedMark 53 = .ok (.freturn, 1) := by decide +kernel
set_option maxRecDepth 20000 in
theorem ggX8_markByJudge_X1_knowsOn : GoodIn wsX8_markByJudge wsX1_knowsOn := goodIn_r _ [6, 7, 37] (by decide +kernel) (by decide +kernel)
set_option maxRecDepth 20000 in
theorem gX8_markByJudge_X1_knowsOn : GoodIn wsX8_markByJudge (wsV RX8 142 RX1 yX1_knowsOn wsX1_knowsOn) := goodIn_app (goodIn_of _ (by decide +kernel)) ggX8_markByJudge_X1_knowsOn
set_option maxRecDepth 20000 in
theorem ggX8_markByJudge_X7_markBy : GoodIn wsX8_markByJudge wsX7_markBy := goodIn_r _ [12, 13, 14, 15, 16, 17, 18, 19, 20, 21, 22, 23, 24, 25, 26, 38, 39, 40, 41, 42, 43, 44, 45, 46, 47] (by decide +kernel) (by decide +kernel)
set_option maxRecDepth 20000 in
theorem gX8_markByJudge_X7_markBy : GoodIn wsX8_markByJudge (wsV RX8 265 RX7 yX7_markBy wsX7_markBy) := goodIn_app (goodIn_of _ (by decide +kernel)) ggX8_markByJudge_X7_markBy
theorem dX8_markByJudge_0 : decode cX8_markByJudge 0 = .ok (.fconst 0, 1) := by decide +kernel
theorem dX8_markByJudge_1 : decode cX8_markByJudge 1 = .ok (.fstore 4, 2) := by decide +kernel
theorem dX8_markByJudge_3 : decode cX8_markByJudge 3 = .ok (.aload_n 1, 1) := by decide +kernel
theorem dX8_markByJudge_4 : decode cX8_markByJudge 4 = .ok (.ifnonnull 6, 3) := by decide +kernel
theorem dX8_markByJudge_7 : decode cX8_markByJudge 7 = .ok (.fload 4, 2) := by decide +kernel
theorem dX8_markByJudge_9 : decode cX8_markByJudge 9 = .ok (.freturn, 1) := by decide +kernel
theorem dX8_markByJudge_10 : decode cX8_markByJudge 10 = .ok (.iconst 0, 1) := by decide +kernel
theorem dX8_markByJudge_11 : decode cX8_markByJudge 11 = .ok (.istore 5, 2) := by decide +kernel
theorem dX8_markByJudge_13 : decode cX8_markByJudge 13 = .ok (.iload 5, 2) := by decide +kernel
theorem dX8_markByJudge_15 : decode cX8_markByJudge 15 = .ok (.aload_n 0, 1) := by decide +kernel
theorem dX8_markByJudge_16 : decode cX8_markByJudge 16 = .ok (.getfield 23, 3) := by decide +kernel
theorem dX8_markByJudge_19 : decode cX8_markByJudge 19 = .ok (.arraylength, 1) := by decide +kernel
theorem dX8_markByJudge_20 : decode cX8_markByJudge 20 = .ok (.if_icmp .ge 59, 3) := by decide +kernel
theorem dX8_markByJudge_23 : decode cX8_markByJudge 23 = .ok (.aload_n 0, 1) := by decide +kernel
theorem dX8_markByJudge_24 : decode cX8_markByJudge 24 = .ok (.getfield 23, 3) := by decide +kernel
theorem dX8_markByJudge_27 : decode cX8_markByJudge 27 = .ok (.iload 5, 2) := by decide +kernel
theorem dX8_markByJudge_29 : decode cX8_markByJudge 29 = .ok (.aaload, 1) := by decide +kernel
theorem dX8_markByJudge_30 : decode cX8_markByJudge 30 = .ok (.ifnull 43, 3) := by decide +kernel
theorem dX8_markByJudge_33 : decode cX8_markByJudge 33 = .ok (.aload_n 1, 1) := by decide +kernel
theorem dX8_markByJudge_34 : decode cX8_markByJudge 34 = .ok (.iload 5, 2) := by decide +kernel
theorem dX8_markByJudge_36 : decode cX8_markByJudge 36 = .ok (.iload_n 2, 1) := by decide +kernel
theorem dX8_markByJudge_37 : decode cX8_markByJudge 37 = .ok (.invokevirtual 142, 3) := by decide +kernel
theorem dX8_markByJudge_40 : decode cX8_markByJudge 40 = .ok (.ifCond .eq 33, 3) := by decide +kernel
theorem dX8_markByJudge_43 : decode cX8_markByJudge 43 = .ok (.aload_n 3, 1) := by decide +kernel
theorem dX8_markByJudge_44 : decode cX8_markByJudge 44 = .ok (.aload_n 0, 1) := by decide +kernel
theorem dX8_markByJudge_45 : decode cX8_markByJudge 45 = .ok (.getfield 23, 3) := by decide +kernel
theorem dX8_markByJudge_48 : decode cX8_markByJudge 48 = .ok (.iload 5, 2) := by decide +kernel
theorem dX8_markByJudge_50 : decode cX8_markByJudge 50 = .ok (.aaload, 1) := by decide +kernel
theorem dX8_markByJudge_51 : decode cX8_markByJudge 51 = .ok (.invokevirtual 265, 3) := by decide +kernel
theorem dX8_markByJudge_54 : decode cX8_markByJudge 54 = .ok (.fstore 6, 2) := by decide +kernel
theorem dX8_markByJudge_56 : decode cX8_markByJudge 56 = .ok (.fload 6, 2) := by decide +kernel
theorem dX8_markByJudge_58 : decode cX8_markByJudge 58 = .ok (.fload 4, 2) := by decide +kernel
theorem dX8_markByJudge_60 : decode cX8_markByJudge 60 = .ok (.fcmp .l, 1) := by decide +kernel
theorem dX8_markByJudge_61 : decode cX8_markByJudge 61 = .ok (.ifCond .le 8, 3) := by decide +kernel
theorem dX8_markByJudge_64 : decode cX8_markByJudge 64 = .ok (.fload 6, 2) := by decide +kernel
theorem dX8_markByJudge_66 : decode cX8_markByJudge 66 = .ok (.goto 5, 3) := by decide +kernel
theorem dX8_markByJudge_69 : decode cX8_markByJudge 69 = .ok (.fload 4, 2) := by decide +kernel
theorem dX8_markByJudge_71 : decode cX8_markByJudge 71 = .ok (.fstore 4, 2) := by decide +kernel
theorem dX8_markByJudge_73 : decode cX8_markByJudge 73 = .ok (.iinc 5 1, 3) := by decide +kernel
theorem dX8_markByJudge_76 : decode cX8_markByJudge 76 = .ok (.goto (-63), 3) := by decide +kernel
theorem dX8_markByJudge_79 : decode cX8_markByJudge 79 = .ok (.fload 4, 2) := by decide +kernel
theorem dX8_markByJudge_81 : decode cX8_markByJudge 81 = .ok (.freturn, 1) := by decide +kernel
set_option maxRecDepth 20000 in
theorem ggX8_roundGoesTo_X0_writingAt : GoodIn wsX8_roundGoesTo wsX0_writingAt := goodIn_r _ [6, 7, 55, 56, 57, 58, 59, 60, 61, 62, 63, 64] (by decide +kernel) (by decide +kernel)
set_option maxRecDepth 20000 in
theorem gX8_roundGoesTo_X0_writingAt : GoodIn wsX8_roundGoesTo (wsV RX8 234 RX0 yX0_writingAt wsX0_writingAt) := goodIn_app (goodIn_of _ (by decide +kernel)) ggX8_roundGoesTo_X0_writingAt
set_option maxRecDepth 20000 in
theorem ggX8_roundGoesTo_X8_judgedMark : GoodIn wsX8_roundGoesTo wsX8_judgedMark := goodIn_r _ [12, 13, 14, 15, 16, 17, 18, 11, 19, 20, 21, 22, 23, 24, 25, 26, 27, 28, 29, 30, 31, 32, 33, 34, 35, 36, 37, 38, 39, 40, 41, 42, 43, 44, 45, 46, 47, 48, 49, 50, 55, 56, 57, 58, 59, 60, 61, 62, 63, 64, 65, 66, 67, 68, 69, 70, 71, 72, 73, 74, 75, 51, 52, 53, 54, 76, 77, 78, 79, 80, 81] (by decide +kernel) (by decide +kernel)
set_option maxRecDepth 20000 in
theorem gX8_roundGoesTo_X8_judgedMark : GoodIn wsX8_roundGoesTo (wsV RX8 286 RX8 yX8_judgedMark wsX8_judgedMark) := goodIn_app (goodIn_of _ (by decide +kernel)) ggX8_roundGoesTo_X8_judgedMark
theorem dX8_roundGoesTo_0 : decode cX8_roundGoesTo 0 = .ok (.aload_n 1, 1) := by decide +kernel
theorem dX8_roundGoesTo_1 : decode cX8_roundGoesTo 1 = .ok (.iload_n 2, 1) := by decide +kernel
theorem dX8_roundGoesTo_2 : decode cX8_roundGoesTo 2 = .ok (.iconst 0, 1) := by decide +kernel
theorem dX8_roundGoesTo_3 : decode cX8_roundGoesTo 3 = .ok (.invokevirtual 234, 3) := by decide +kernel
theorem dX8_roundGoesTo_6 : decode cX8_roundGoesTo 6 = .ok (.astore_n 3, 1) := by decide +kernel
theorem dX8_roundGoesTo_7 : decode cX8_roundGoesTo 7 = .ok (.aload_n 1, 1) := by decide +kernel
theorem dX8_roundGoesTo_8 : decode cX8_roundGoesTo 8 = .ok (.iload_n 2, 1) := by decide +kernel
theorem dX8_roundGoesTo_9 : decode cX8_roundGoesTo 9 = .ok (.iconst 1, 1) := by decide +kernel
theorem dX8_roundGoesTo_10 : decode cX8_roundGoesTo 10 = .ok (.invokevirtual 234, 3) := by decide +kernel
theorem dX8_roundGoesTo_13 : decode cX8_roundGoesTo 13 = .ok (.astore 4, 2) := by decide +kernel
theorem dX8_roundGoesTo_15 : decode cX8_roundGoesTo 15 = .ok (.aload_n 3, 1) := by decide +kernel
theorem dX8_roundGoesTo_16 : decode cX8_roundGoesTo 16 = .ok (.ifnull 23, 3) := by decide +kernel
theorem dX8_roundGoesTo_19 : decode cX8_roundGoesTo 19 = .ok (.aload 4, 2) := by decide +kernel
theorem dX8_roundGoesTo_21 : decode cX8_roundGoesTo 21 = .ok (.ifnull 18, 3) := by decide +kernel
theorem dX8_roundGoesTo_24 : decode cX8_roundGoesTo 24 = .ok (.aload_n 3, 1) := by decide +kernel
theorem dX8_roundGoesTo_25 : decode cX8_roundGoesTo 25 = .ok (.getfield 244, 3) := by decide +kernel
theorem dX8_roundGoesTo_28 : decode cX8_roundGoesTo 28 = .ok (.ifCond .eq 13, 3) := by decide +kernel
theorem dX8_roundGoesTo_31 : decode cX8_roundGoesTo 31 = .ok (.aload 4, 2) := by decide +kernel
theorem dX8_roundGoesTo_33 : decode cX8_roundGoesTo 33 = .ok (.getfield 244, 3) := by decide +kernel
theorem dX8_roundGoesTo_36 : decode cX8_roundGoesTo 36 = .ok (.ifCond .eq 5, 3) := by decide +kernel
theorem dX8_roundGoesTo_39 : decode cX8_roundGoesTo 39 = .ok (.iconst 0, 1) := by decide +kernel
theorem dX8_roundGoesTo_40 : decode cX8_roundGoesTo 40 = .ok (.ireturn, 1) := by decide +kernel
theorem dX8_roundGoesTo_41 : decode cX8_roundGoesTo 41 = .ok (.aload_n 3, 1) := by decide +kernel
theorem dX8_roundGoesTo_42 : decode cX8_roundGoesTo 42 = .ok (.getfield 244, 3) := by decide +kernel
theorem dX8_roundGoesTo_45 : decode cX8_roundGoesTo 45 = .ok (.ifCond .eq 5, 3) := by decide +kernel
theorem dX8_roundGoesTo_48 : decode cX8_roundGoesTo 48 = .ok (.iconst (-1), 1) := by decide +kernel
theorem dX8_roundGoesTo_49 : decode cX8_roundGoesTo 49 = .ok (.ireturn, 1) := by decide +kernel
theorem dX8_roundGoesTo_50 : decode cX8_roundGoesTo 50 = .ok (.aload 4, 2) := by decide +kernel
theorem dX8_roundGoesTo_52 : decode cX8_roundGoesTo 52 = .ok (.getfield 244, 3) := by decide +kernel
theorem dX8_roundGoesTo_55 : decode cX8_roundGoesTo 55 = .ok (.ifCond .eq 5, 3) := by decide +kernel
theorem dX8_roundGoesTo_58 : decode cX8_roundGoesTo 58 = .ok (.iconst 1, 1) := by decide +kernel
theorem dX8_roundGoesTo_59 : decode cX8_roundGoesTo 59 = .ok (.ireturn, 1) := by decide +kernel
theorem dX8_roundGoesTo_60 : decode cX8_roundGoesTo 60 = .ok (.aload_n 0, 1) := by decide +kernel
theorem dX8_roundGoesTo_61 : decode cX8_roundGoesTo 61 = .ok (.aload_n 1, 1) := by decide +kernel
theorem dX8_roundGoesTo_62 : decode cX8_roundGoesTo 62 = .ok (.aload_n 3, 1) := by decide +kernel
theorem dX8_roundGoesTo_63 : decode cX8_roundGoesTo 63 = .ok (.invokevirtual 286, 3) := by decide +kernel
theorem dX8_roundGoesTo_66 : decode cX8_roundGoesTo 66 = .ok (.fstore 5, 2) := by decide +kernel
theorem dX8_roundGoesTo_68 : decode cX8_roundGoesTo 68 = .ok (.aload_n 0, 1) := by decide +kernel
theorem dX8_roundGoesTo_69 : decode cX8_roundGoesTo 69 = .ok (.aload_n 1, 1) := by decide +kernel
theorem dX8_roundGoesTo_70 : decode cX8_roundGoesTo 70 = .ok (.aload 4, 2) := by decide +kernel
theorem dX8_roundGoesTo_72 : decode cX8_roundGoesTo 72 = .ok (.invokevirtual 286, 3) := by decide +kernel
theorem dX8_roundGoesTo_75 : decode cX8_roundGoesTo 75 = .ok (.fstore 6, 2) := by decide +kernel
theorem dX8_roundGoesTo_77 : decode cX8_roundGoesTo 77 = .ok (.fload 5, 2) := by decide +kernel
theorem dX8_roundGoesTo_79 : decode cX8_roundGoesTo 79 = .ok (.fload 6, 2) := by decide +kernel
theorem dX8_roundGoesTo_81 : decode cX8_roundGoesTo 81 = .ok (.fcmp .l, 1) := by decide +kernel
theorem dX8_roundGoesTo_82 : decode cX8_roundGoesTo 82 = .ok (.ifCond .ne 5, 3) := by decide +kernel
theorem dX8_roundGoesTo_85 : decode cX8_roundGoesTo 85 = .ok (.iconst 0, 1) := by decide +kernel
theorem dX8_roundGoesTo_86 : decode cX8_roundGoesTo 86 = .ok (.ireturn, 1) := by decide +kernel
theorem dX8_roundGoesTo_87 : decode cX8_roundGoesTo 87 = .ok (.fload 5, 2) := by decide +kernel
theorem dX8_roundGoesTo_89 : decode cX8_roundGoesTo 89 = .ok (.fload 6, 2) := by decide +kernel
theorem dX8_roundGoesTo_91 : decode cX8_roundGoesTo 91 = .ok (.fcmp .l, 1) := by decide +kernel
theorem dX8_roundGoesTo_92 : decode cX8_roundGoesTo 92 = .ok (.ifCond .le 7, 3) := by decide +kernel
theorem dX8_roundGoesTo_95 : decode cX8_roundGoesTo 95 = .ok (.iconst 1, 1) := by decide +kernel
theorem dX8_roundGoesTo_96 : decode cX8_roundGoesTo 96 = .ok (.goto 4, 3) := by decide +kernel
theorem dX8_roundGoesTo_99 : decode cX8_roundGoesTo 99 = .ok (.iconst (-1), 1) := by decide +kernel
theorem dX8_roundGoesTo_100 : decode cX8_roundGoesTo 100 = .ok (.ireturn, 1) := by decide +kernel
set_option maxRecDepth 20000 in
theorem ggX8_countRounds_X8_roundGoesTo : GoodIn wsX8_countRounds wsX8_roundGoesTo := goodIn_r _ [5, 6, 7, 8, 9, 10, 11, 12, 13, 14, 15, 4, 16, 17, 18, 19, 20, 21, 22, 23, 24, 25, 26, 27, 28, 29, 30, 31, 32, 33, 34, 35, 36, 37, 38, 39, 40, 41, 42, 43, 44, 45, 46, 47, 48, 49, 50, 51, 52, 53, 54, 55, 56, 57, 58, 59, 60, 61, 62, 63, 64, 65, 66, 67, 68, 69, 70, 71, 72, 73, 74, 75, 76, 77, 78, 79, 80, 81, 82, 83, 84, 85] (by decide +kernel) (by decide +kernel)
set_option maxRecDepth 20000 in
theorem gX8_countRounds_X8_roundGoesTo : GoodIn wsX8_countRounds (wsV RX8 299 RX8 yX8_roundGoesTo wsX8_roundGoesTo) := goodIn_app (goodIn_of _ (by decide +kernel)) ggX8_countRounds_X8_roundGoesTo
theorem dX8_countRounds_0 : decode cX8_countRounds 0 = .ok (.iconst 0, 1) := by decide +kernel
theorem dX8_countRounds_1 : decode cX8_countRounds 1 = .ok (.istore_n 3, 1) := by decide +kernel
theorem dX8_countRounds_2 : decode cX8_countRounds 2 = .ok (.iconst 0, 1) := by decide +kernel
theorem dX8_countRounds_3 : decode cX8_countRounds 3 = .ok (.istore 4, 2) := by decide +kernel
theorem dX8_countRounds_5 : decode cX8_countRounds 5 = .ok (.iload 4, 2) := by decide +kernel
theorem dX8_countRounds_7 : decode cX8_countRounds 7 = .ok (.iconst 5, 1) := by decide +kernel
theorem dX8_countRounds_8 : decode cX8_countRounds 8 = .ok (.if_icmp .ge 23, 3) := by decide +kernel
theorem dX8_countRounds_11 : decode cX8_countRounds 11 = .ok (.aload_n 0, 1) := by decide +kernel
theorem dX8_countRounds_12 : decode cX8_countRounds 12 = .ok (.aload_n 1, 1) := by decide +kernel
theorem dX8_countRounds_13 : decode cX8_countRounds 13 = .ok (.iload 4, 2) := by decide +kernel
theorem dX8_countRounds_15 : decode cX8_countRounds 15 = .ok (.invokevirtual 299, 3) := by decide +kernel
theorem dX8_countRounds_18 : decode cX8_countRounds 18 = .ok (.iload_n 2, 1) := by decide +kernel
theorem dX8_countRounds_19 : decode cX8_countRounds 19 = .ok (.if_icmp .ne 6, 3) := by decide +kernel
theorem dX8_countRounds_22 : decode cX8_countRounds 22 = .ok (.iinc 3 1, 3) := by decide +kernel
theorem dX8_countRounds_25 : decode cX8_countRounds 25 = .ok (.iinc 4 1, 3) := by decide +kernel
theorem dX8_countRounds_28 : decode cX8_countRounds 28 = .ok (.goto (-23), 3) := by decide +kernel
theorem dX8_countRounds_31 : decode cX8_countRounds 31 = .ok (.iload_n 3, 1) := by decide +kernel
theorem dX8_countRounds_32 : decode cX8_countRounds 32 = .ok (.ireturn, 1) := by decide +kernel
set_option maxRecDepth 20000 in
theorem ggX8_winnerOf_X0_isOver : GoodIn wsX8_winnerOf wsX0_isOver := goodIn_r _ [7, 8, 9, 63, 64, 65, 66, 67, 68, 69, 70, 71, 72] (by decide +kernel) (by decide +kernel)
set_option maxRecDepth 20000 in
theorem gX8_winnerOf_X0_isOver : GoodIn wsX8_winnerOf (wsV RX8 205 RX0 yX0_isOver wsX0_isOver) := goodIn_app (goodIn_of _ (by decide +kernel)) ggX8_winnerOf_X0_isOver
set_option maxRecDepth 20000 in
theorem ggX8_winnerOf_X8_roundGoesTo : GoodIn wsX8_winnerOf wsX8_roundGoesTo := goodIn_r _ [14, 15, 16, 17, 18, 6, 19, 20, 21, 22, 23, 13, 24, 25, 26, 27, 28, 29, 30, 31, 32, 33, 34, 35, 36, 37, 38, 39, 40, 41, 42, 43, 44, 45, 46, 47, 48, 49, 50, 51, 52, 53, 54, 55, 56, 57, 58, 59, 60, 61, 62, 73, 74, 75, 76, 63, 64, 65, 66, 67, 68, 69, 70, 71, 72, 77, 78, 79, 80, 81, 82, 83, 84, 85, 86, 87, 88, 89, 90, 91, 92, 93] (by decide +kernel) (by decide +kernel)
set_option maxRecDepth 20000 in
theorem gX8_winnerOf_X8_roundGoesTo : GoodIn wsX8_winnerOf (wsV RX8 299 RX8 yX8_roundGoesTo wsX8_roundGoesTo) := goodIn_app (goodIn_of _ (by decide +kernel)) ggX8_winnerOf_X8_roundGoesTo
theorem dX8_winnerOf_0 : decode cX8_winnerOf 0 = .ok (.aload_n 1, 1) := by decide +kernel
theorem dX8_winnerOf_1 : decode cX8_winnerOf 1 = .ok (.invokevirtual 205, 3) := by decide +kernel
theorem dX8_winnerOf_4 : decode cX8_winnerOf 4 = .ok (.ifCond .ne 5, 3) := by decide +kernel
theorem dX8_winnerOf_7 : decode cX8_winnerOf 7 = .ok (.iconst (-1), 1) := by decide +kernel
theorem dX8_winnerOf_8 : decode cX8_winnerOf 8 = .ok (.ireturn, 1) := by decide +kernel
theorem dX8_winnerOf_9 : decode cX8_winnerOf 9 = .ok (.iconst 0, 1) := by decide +kernel
theorem dX8_winnerOf_10 : decode cX8_winnerOf 10 = .ok (.istore_n 2, 1) := by decide +kernel
theorem dX8_winnerOf_11 : decode cX8_winnerOf 11 = .ok (.iconst 0, 1) := by decide +kernel
theorem dX8_winnerOf_12 : decode cX8_winnerOf 12 = .ok (.istore_n 3, 1) := by decide +kernel
theorem dX8_winnerOf_13 : decode cX8_winnerOf 13 = .ok (.iload_n 3, 1) := by decide +kernel
theorem dX8_winnerOf_14 : decode cX8_winnerOf 14 = .ok (.iconst 5, 1) := by decide +kernel
theorem dX8_winnerOf_15 : decode cX8_winnerOf 15 = .ok (.if_icmp .ge 18, 3) := by decide +kernel
theorem dX8_winnerOf_18 : decode cX8_winnerOf 18 = .ok (.iload_n 2, 1) := by decide +kernel
theorem dX8_winnerOf_19 : decode cX8_winnerOf 19 = .ok (.aload_n 0, 1) := by decide +kernel
theorem dX8_winnerOf_20 : decode cX8_winnerOf 20 = .ok (.aload_n 1, 1) := by decide +kernel
theorem dX8_winnerOf_21 : decode cX8_winnerOf 21 = .ok (.iload_n 3, 1) := by decide +kernel
theorem dX8_winnerOf_22 : decode cX8_winnerOf 22 = .ok (.invokevirtual 299, 3) := by decide +kernel
theorem dX8_winnerOf_25 : decode cX8_winnerOf 25 = .ok (.iadd, 1) := by decide +kernel
theorem dX8_winnerOf_26 : decode cX8_winnerOf 26 = .ok (.istore_n 2, 1) := by decide +kernel
theorem dX8_winnerOf_27 : decode cX8_winnerOf 27 = .ok (.iinc 3 1, 3) := by decide +kernel
theorem dX8_winnerOf_30 : decode cX8_winnerOf 30 = .ok (.goto (-17), 3) := by decide +kernel
theorem dX8_winnerOf_33 : decode cX8_winnerOf 33 = .ok (.iload_n 2, 1) := by decide +kernel
theorem dX8_winnerOf_34 : decode cX8_winnerOf 34 = .ok (.ifCond .ne 5, 3) := by decide +kernel
theorem dX8_winnerOf_37 : decode cX8_winnerOf 37 = .ok (.iconst (-1), 1) := by decide +kernel
theorem dX8_winnerOf_38 : decode cX8_winnerOf 38 = .ok (.ireturn, 1) := by decide +kernel
theorem dX8_winnerOf_39 : decode cX8_winnerOf 39 = .ok (.iload_n 2, 1) := by decide +kernel
theorem dX8_winnerOf_40 : decode cX8_winnerOf 40 = .ok (.ifCond .le 10, 3) := by decide +kernel
theorem dX8_winnerOf_43 : decode cX8_winnerOf 43 = .ok (.aload_n 1, 1) := by decide +kernel
theorem dX8_winnerOf_44 : decode cX8_winnerOf 44 = .ok (.getfield 302, 3) := by decide +kernel
theorem dX8_winnerOf_47 : decode cX8_winnerOf 47 = .ok (.goto 7, 3) := by decide +kernel
theorem dX8_winnerOf_50 : decode cX8_winnerOf 50 = .ok (.aload_n 1, 1) := by decide +kernel
theorem dX8_winnerOf_51 : decode cX8_winnerOf 51 = .ok (.getfield 305, 3) := by decide +kernel
theorem dX8_winnerOf_54 : decode cX8_winnerOf 54 = .ok (.ireturn, 1) := by decide +kernel
theorem dX9_init_0 : decode cX9_init 0 = .ok (.aload_n 0, 1) := by decide +kernel
theorem dX9_init_1 : decode cX9_init 1 = .ok (.invokespecial 1, 3) := by decide +kernel
theorem dX9_init_4 : decode cX9_init 4 = .ok (.aload_n 0, 1) := by decide +kernel
theorem dX9_init_5 : decode cX9_init 5 = .ok (.bipush 32, 2) := by decide +kernel
theorem dX9_init_7 : decode cX9_init 7 = .ok (.newarray .int, 2) := by decide +kernel
theorem dX9_init_9 : decode cX9_init 9 = .ok (.putfield 7, 3) := by decide +kernel
theorem dX9_init_12 : decode cX9_init 12 = .ok (.aload_n 0, 1) := by decide +kernel
theorem dX9_init_13 : decode cX9_init 13 = .ok (.bipush 6, 2) := by decide +kernel
theorem dX9_init_15 : decode cX9_init 15 = .ok (.newarray .int, 2) := by decide +kernel
theorem dX9_init_17 : decode cX9_init 17 = .ok (.putfield 13, 3) := by decide +kernel
theorem dX9_init_20 : decode cX9_init 20 = .ok (.aload_n 0, 1) := by decide +kernel
theorem dX9_init_21 : decode cX9_init 21 = .ok (.sipush 144, 3) := by decide +kernel
theorem dX9_init_24 : decode cX9_init 24 = .ok (.newarray .int, 2) := by decide +kernel
theorem dX9_init_26 : decode cX9_init 26 = .ok (.putfield 16, 3) := by decide +kernel
theorem dX9_init_29 : decode cX9_init 29 = .ok (.aload_n 0, 1) := by decide +kernel
theorem dX9_init_30 : decode cX9_init 30 = .ok (.iconst 3, 1) := by decide +kernel
theorem dX9_init_31 : decode cX9_init 31 = .ok (.newarray .int, 2) := by decide +kernel
theorem dX9_init_33 : decode cX9_init 33 = .ok (.putfield 19, 3) := by decide +kernel
theorem dX9_init_36 : decode cX9_init 36 = .ok (.aload_n 0, 1) := by decide +kernel
theorem dX9_init_37 : decode cX9_init 37 = .ok (.iconst 3, 1) := by decide +kernel
theorem dX9_init_38 : decode cX9_init 38 = .ok (.newarray .int, 2) := by decide +kernel
theorem dX9_init_40 : decode cX9_init 40 = .ok (.putfield 22, 3) := by decide +kernel
theorem dX9_init_43 : decode cX9_init 43 = .ok (.aload_n 0, 1) := by decide +kernel
theorem dX9_init_44 : decode cX9_init 44 = .ok (.iconst 3, 1) := by decide +kernel
theorem dX9_init_45 : decode cX9_init 45 = .ok (.newarray .int, 2) := by decide +kernel
theorem dX9_init_47 : decode cX9_init 47 = .ok (.putfield 25, 3) := by decide +kernel
theorem dX9_init_50 : decode cX9_init 50 = .ok (.aload_n 0, 1) := by decide +kernel
theorem dX9_init_51 : decode cX9_init 51 = .ok (.bipush 12, 2) := by decide +kernel
theorem dX9_init_53 : decode cX9_init 53 = .ok (.newarray .int, 2) := by decide +kernel
theorem dX9_init_55 : decode cX9_init 55 = .ok (.putfield 28, 3) := by decide +kernel
theorem dX9_init_58 : decode cX9_init 58 = .ok (.aload_n 0, 1) := by decide +kernel
theorem dX9_init_59 : decode cX9_init 59 = .ok (.bipush 16, 2) := by decide +kernel
theorem dX9_init_61 : decode cX9_init 61 = .ok (.newarray .int, 2) := by decide +kernel
theorem dX9_init_63 : decode cX9_init 63 = .ok (.putfield 31, 3) := by decide +kernel
theorem dX9_init_66 : decode cX9_init 66 = .ok (.aload_n 0, 1) := by decide +kernel
theorem dX9_init_67 : decode cX9_init 67 = .ok (.bipush 12, 2) := by decide +kernel
theorem dX9_init_69 : decode cX9_init 69 = .ok (.newarray .int, 2) := by decide +kernel
theorem dX9_init_71 : decode cX9_init 71 = .ok (.putfield 34, 3) := by decide +kernel
theorem dX9_init_74 : decode cX9_init 74 = .ok (.aload_n 0, 1) := by decide +kernel
theorem dX9_init_75 : decode cX9_init 75 = .ok (.bipush 12, 2) := by decide +kernel
theorem dX9_init_77 : decode cX9_init 77 = .ok (.newarray .int, 2) := by decide +kernel
theorem dX9_init_79 : decode cX9_init 79 = .ok (.putfield 37, 3) := by decide +kernel
theorem dX9_init_82 : decode cX9_init 82 = .ok (.aload_n 0, 1) := by decide +kernel
theorem dX9_init_83 : decode cX9_init 83 = .ok (.bipush 12, 2) := by decide +kernel
theorem dX9_init_85 : decode cX9_init 85 = .ok (.newarray .int, 2) := by decide +kernel
theorem dX9_init_87 : decode cX9_init 87 = .ok (.putfield 40, 3) := by decide +kernel
theorem dX9_init_90 : decode cX9_init 90 = .ok (.aload_n 0, 1) := by decide +kernel
theorem dX9_init_91 : decode cX9_init 91 = .ok (.bipush 12, 2) := by decide +kernel
theorem dX9_init_93 : decode cX9_init 93 = .ok (.newarray .int, 2) := by decide +kernel
theorem dX9_init_95 : decode cX9_init 95 = .ok (.putfield 43, 3) := by decide +kernel
theorem dX9_init_98 : decode cX9_init 98 = .ok (.aload_n 0, 1) := by decide +kernel
theorem dX9_init_99 : decode cX9_init 99 = .ok (.bipush 12, 2) := by decide +kernel
theorem dX9_init_101 : decode cX9_init 101 = .ok (.newarray .int, 2) := by decide +kernel
theorem dX9_init_103 : decode cX9_init 103 = .ok (.putfield 46, 3) := by decide +kernel
theorem dX9_init_106 : decode cX9_init 106 = .ok (.aload_n 0, 1) := by decide +kernel
theorem dX9_init_107 : decode cX9_init 107 = .ok (.bipush 12, 2) := by decide +kernel
theorem dX9_init_109 : decode cX9_init 109 = .ok (.newarray .int, 2) := by decide +kernel
theorem dX9_init_111 : decode cX9_init 111 = .ok (.putfield 49, 3) := by decide +kernel
theorem dX9_init_114 : decode cX9_init 114 = .ok (.aload_n 0, 1) := by decide +kernel
theorem dX9_init_115 : decode cX9_init 115 = .ok (.bipush 12, 2) := by decide +kernel
theorem dX9_init_117 : decode cX9_init 117 = .ok (.newarray .int, 2) := by decide +kernel
theorem dX9_init_119 : decode cX9_init 119 = .ok (.putfield 52, 3) := by decide +kernel
theorem dX9_init_122 : decode cX9_init 122 = .ok (.aload_n 0, 1) := by decide +kernel
theorem dX9_init_123 : decode cX9_init 123 = .ok (.bipush 12, 2) := by decide +kernel
theorem dX9_init_125 : decode cX9_init 125 = .ok (.newarray .int, 2) := by decide +kernel
theorem dX9_init_127 : decode cX9_init 127 = .ok (.putfield 55, 3) := by decide +kernel
theorem dX9_init_130 : decode cX9_init 130 = .ok (.aload_n 0, 1) := by decide +kernel
theorem dX9_init_131 : decode cX9_init 131 = .ok (.bipush 12, 2) := by decide +kernel
theorem dX9_init_133 : decode cX9_init 133 = .ok (.newarray .int, 2) := by decide +kernel
theorem dX9_init_135 : decode cX9_init 135 = .ok (.putfield 58, 3) := by decide +kernel
theorem dX9_init_138 : decode cX9_init 138 = .ok (.aload_n 0, 1) := by decide +kernel
theorem dX9_init_139 : decode cX9_init 139 = .ok (.bipush 12, 2) := by decide +kernel
theorem dX9_init_141 : decode cX9_init 141 = .ok (.newarray .int, 2) := by decide +kernel
theorem dX9_init_143 : decode cX9_init 143 = .ok (.putfield 61, 3) := by decide +kernel
theorem dX9_init_146 : decode cX9_init 146 = .ok (.aload_n 0, 1) := by decide +kernel
theorem dX9_init_147 : decode cX9_init 147 = .ok (.bipush 120, 2) := by decide +kernel
theorem dX9_init_149 : decode cX9_init 149 = .ok (.newarray .int, 2) := by decide +kernel
theorem dX9_init_151 : decode cX9_init 151 = .ok (.putfield 64, 3) := by decide +kernel
theorem dX9_init_154 : decode cX9_init 154 = .ok (.aload_n 0, 1) := by decide +kernel
theorem dX9_init_155 : decode cX9_init 155 = .ok (.bipush 120, 2) := by decide +kernel
theorem dX9_init_157 : decode cX9_init 157 = .ok (.newarray .int, 2) := by decide +kernel
theorem dX9_init_159 : decode cX9_init 159 = .ok (.putfield 67, 3) := by decide +kernel
theorem dX9_init_162 : decode cX9_init 162 = .ok (.aload_n 0, 1) := by decide +kernel
theorem dX9_init_163 : decode cX9_init 163 = .ok (.bipush 120, 2) := by decide +kernel
theorem dX9_init_165 : decode cX9_init 165 = .ok (.newarray .boolean, 2) := by decide +kernel
theorem dX9_init_167 : decode cX9_init 167 = .ok (.putfield 70, 3) := by decide +kernel
theorem dX9_init_170 : decode cX9_init 170 = .ok (.aload_n 0, 1) := by decide +kernel
theorem dX9_init_171 : decode cX9_init 171 = .ok (.bipush 120, 2) := by decide +kernel
theorem dX9_init_173 : decode cX9_init 173 = .ok (.newarray .boolean, 2) := by decide +kernel
theorem dX9_init_175 : decode cX9_init 175 = .ok (.putfield 74, 3) := by decide +kernel
theorem dX9_init_178 : decode cX9_init 178 = .ok (.aload_n 0, 1) := by decide +kernel
theorem dX9_init_179 : decode cX9_init 179 = .ok (.sipush 3840, 3) := by decide +kernel
theorem dX9_init_182 : decode cX9_init 182 = .ok (.newarray .int, 2) := by decide +kernel
theorem dX9_init_184 : decode cX9_init 184 = .ok (.putfield 77, 3) := by decide +kernel
theorem dX9_init_187 : decode cX9_init 187 = .ok (.iconst 0, 1) := by decide +kernel
theorem dX9_init_188 : decode cX9_init 188 = .ok (.istore_n 1, 1) := by decide +kernel
theorem dX9_init_189 : decode cX9_init 189 = .ok (.iload_n 1, 1) := by decide +kernel
theorem dX9_init_190 : decode cX9_init 190 = .ok (.bipush 16, 2) := by decide +kernel
theorem dX9_init_192 : decode cX9_init 192 = .ok (.if_icmp .ge 16, 3) := by decide +kernel
theorem dX9_init_195 : decode cX9_init 195 = .ok (.aload_n 0, 1) := by decide +kernel
theorem dX9_init_196 : decode cX9_init 196 = .ok (.getfield 31, 3) := by decide +kernel
theorem dX9_init_199 : decode cX9_init 199 = .ok (.iload_n 1, 1) := by decide +kernel
theorem dX9_init_200 : decode cX9_init 200 = .ok (.iconst (-1), 1) := by decide +kernel
theorem dX9_init_201 : decode cX9_init 201 = .ok (.iastore, 1) := by decide +kernel
theorem dX9_init_202 : decode cX9_init 202 = .ok (.iinc 1 1, 3) := by decide +kernel
theorem dX9_init_205 : decode cX9_init 205 = .ok (.goto (-16), 3) := by decide +kernel
theorem dX9_init_208 : decode cX9_init 208 = .ok (.return_, 1) := by decide +kernel
theorem dX9_thrown_0 : decode cX9_thrown 0 = .ok (.aload_n 0, 1) := by decide +kernel
theorem dX9_thrown_1 : decode cX9_thrown 1 = .ok (.getfield 80, 3) := by decide +kernel
theorem dX9_thrown_4 : decode cX9_thrown 4 = .ok (.ireturn, 1) := by decide +kernel
theorem dX9_in_0 : decode cX9_in 0 = .ok (.iload_n 0, 1) := by decide +kernel
theorem dX9_in_1 : decode cX9_in 1 = .ok (.iload_n 1, 1) := by decide +kernel
theorem dX9_in_2 : decode cX9_in 2 = .ok (.if_icmp .lt 12, 3) := by decide +kernel
theorem dX9_in_5 : decode cX9_in 5 = .ok (.iload_n 0, 1) := by decide +kernel
theorem dX9_in_6 : decode cX9_in 6 = .ok (.iload_n 2, 1) := by decide +kernel
theorem dX9_in_7 : decode cX9_in 7 = .ok (.if_icmp .gt 7, 3) := by decide +kernel
theorem dX9_in_10 : decode cX9_in 10 = .ok (.iconst 1, 1) := by decide +kernel
theorem dX9_in_11 : decode cX9_in 11 = .ok (.goto 4, 3) := by decide +kernel
theorem dX9_in_14 : decode cX9_in 14 = .ok (.iconst 0, 1) := by decide +kernel
theorem dX9_in_15 : decode cX9_in 15 = .ok (.ireturn, 1) := by decide +kernel
theorem dX9_goes_0 : decode cX9_goes 0 = .ok (.aload_n 0, 1) := by decide +kernel
theorem dX9_goes_1 : decode cX9_goes 1 = .ok (.iload_n 1, 1) := by decide +kernel
theorem dX9_goes_2 : decode cX9_goes 2 = .ok (.ifCond .ne 7, 3) := by decide +kernel
theorem dX9_goes_5 : decode cX9_goes 5 = .ok (.iconst 1, 1) := by decide +kernel
theorem dX9_goes_6 : decode cX9_goes 6 = .ok (.goto 20, 3) := by decide +kernel
theorem dX9_goes_9 : decode cX9_goes 9 = .ok (.iload_n 2, 1) := by decide +kernel
theorem dX9_goes_10 : decode cX9_goes 10 = .ok (.ifCond .ne 7, 3) := by decide +kernel
theorem dX9_goes_13 : decode cX9_goes 13 = .ok (.iconst 2, 1) := by decide +kernel
theorem dX9_goes_14 : decode cX9_goes 14 = .ok (.goto 12, 3) := by decide +kernel
theorem dX9_goes_17 : decode cX9_goes 17 = .ok (.iload_n 3, 1) := by decide +kernel
theorem dX9_goes_18 : decode cX9_goes 18 = .ok (.ifCond .ne 7, 3) := by decide +kernel
theorem dX9_goes_21 : decode cX9_goes 21 = .ok (.iconst 3, 1) := by decide +kernel
theorem dX9_goes_22 : decode cX9_goes 22 = .ok (.goto 4, 3) := by decide +kernel
theorem dX9_goes_25 : decode cX9_goes 25 = .ok (.iconst 0, 1) := by decide +kernel
theorem dX9_goes_26 : decode cX9_goes 26 = .ok (.putfield 80, 3) := by decide +kernel
theorem dX9_goes_29 : decode cX9_goes 29 = .ok (.aload_n 0, 1) := by decide +kernel
theorem dX9_goes_30 : decode cX9_goes 30 = .ok (.getfield 80, 3) := by decide +kernel
theorem dX9_goes_33 : decode cX9_goes 33 = .ok (.ifCond .ne 7, 3) := by decide +kernel
theorem dX9_goes_36 : decode cX9_goes 36 = .ok (.iconst 1, 1) := by decide +kernel
theorem dX9_goes_37 : decode cX9_goes 37 = .ok (.goto 4, 3) := by decide +kernel
theorem dX9_goes_40 : decode cX9_goes 40 = .ok (.iconst 0, 1) := by decide +kernel
theorem dX9_goes_41 : decode cX9_goes 41 = .ok (.ireturn, 1) := by decide +kernel
set_option maxRecDepth 20000 in
theorem ggX9_isDuel_X9_in : GoodIn wsX9_isDuel wsX9_in := goodIn_r _ [5] (by decide +kernel) (by decide +kernel)
set_option maxRecDepth 20000 in
theorem gX9_isDuel_X9_in : GoodIn wsX9_isDuel (va_wsS RX9 87 yX9_in wsX9_in) := goodIn_app (goodIn_of _ (by decide +kernel)) ggX9_isDuel_X9_in
theorem dX9_isDuel_0 : decode cX9_isDuel 0 = .ok (.iload_n 1, 1) := by decide +kernel
theorem dX9_isDuel_1 : decode cX9_isDuel 1 = .ok (.iconst 0, 1) := by decide +kernel
theorem dX9_isDuel_2 : decode cX9_isDuel 2 = .ok (.aload_n 0, 1) := by decide +kernel
theorem dX9_isDuel_3 : decode cX9_isDuel 3 = .ok (.getfield 84, 3) := by decide +kernel
theorem dX9_isDuel_6 : decode cX9_isDuel 6 = .ok (.iconst 1, 1) := by decide +kernel
theorem dX9_isDuel_7 : decode cX9_isDuel 7 = .ok (.isub, 1) := by decide +kernel
theorem dX9_isDuel_8 : decode cX9_isDuel 8 = .ok (.invokestatic 87, 3) := by decide +kernel
theorem dX9_isDuel_11 : decode cX9_isDuel 11 = .ok (.ireturn, 1) := by decide +kernel
set_option maxRecDepth 20000 in
theorem ggX9_isSign_X9_in : GoodIn wsX9_isSign wsX9_in := goodIn_r _ [5] (by decide +kernel) (by decide +kernel)
set_option maxRecDepth 20000 in
theorem gX9_isSign_X9_in : GoodIn wsX9_isSign (va_wsS RX9 87 yX9_in wsX9_in) := goodIn_app (goodIn_of _ (by decide +kernel)) ggX9_isSign_X9_in
theorem dX9_isSign_0 : decode cX9_isSign 0 = .ok (.iload_n 1, 1) := by decide +kernel
theorem dX9_isSign_1 : decode cX9_isSign 1 = .ok (.iconst 0, 1) := by decide +kernel
theorem dX9_isSign_2 : decode cX9_isSign 2 = .ok (.aload_n 0, 1) := by decide +kernel
theorem dX9_isSign_3 : decode cX9_isSign 3 = .ok (.getfield 91, 3) := by decide +kernel
theorem dX9_isSign_6 : decode cX9_isSign 6 = .ok (.iconst 1, 1) := by decide +kernel
theorem dX9_isSign_7 : decode cX9_isSign 7 = .ok (.isub, 1) := by decide +kernel
theorem dX9_isSign_8 : decode cX9_isSign 8 = .ok (.invokestatic 87, 3) := by decide +kernel
theorem dX9_isSign_11 : decode cX9_isSign 11 = .ok (.ireturn, 1) := by decide +kernel
set_option maxRecDepth 20000 in
theorem ggX9_stroke_X9_in : GoodIn wsX9_stroke wsX9_in := goodIn_r _ [6] (by decide +kernel) (by decide +kernel)
set_option maxRecDepth 20000 in
theorem gX9_stroke_X9_in : GoodIn wsX9_stroke (va_wsS RX9 87 yX9_in wsX9_in) := goodIn_app (goodIn_of _ (by decide +kernel)) ggX9_stroke_X9_in
set_option maxRecDepth 20000 in
theorem ggX9_stroke_X9_goes : GoodIn wsX9_stroke wsX9_goes := goodIn_r _ [10, 11, 12, 13, 14, 15, 16, 17, 18, 19, 20, 21, 22, 23, 24, 25, 26, 27, 28, 29, 30, 31, 32, 33, 34, 35, 36, 37, 38, 39, 40] (by decide +kernel) (by decide +kernel)
set_option maxRecDepth 20000 in
theorem gX9_stroke_X9_goes : GoodIn wsX9_stroke (wsV RX9 97 RX9 yX9_goes wsX9_goes) := goodIn_app (goodIn_of _ (by decide +kernel)) ggX9_stroke_X9_goes
theorem dX9_stroke_0 : decode cX9_stroke 0 = .ok (.iload_n 1, 1) := by decide +kernel
theorem dX9_stroke_1 : decode cX9_stroke 1 = .ok (.iconst 0, 1) := by decide +kernel
theorem dX9_stroke_2 : decode cX9_stroke 2 = .ok (.bipush 99, 2) := by decide +kernel
theorem dX9_stroke_4 : decode cX9_stroke 4 = .ok (.invokestatic 87, 3) := by decide +kernel
theorem dX9_stroke_7 : decode cX9_stroke 7 = .ok (.ifCond .eq 49, 3) := by decide +kernel
theorem dX9_stroke_10 : decode cX9_stroke 10 = .ok (.iload_n 2, 1) := by decide +kernel
theorem dX9_stroke_11 : decode cX9_stroke 11 = .ok (.iconst 0, 1) := by decide +kernel
theorem dX9_stroke_12 : decode cX9_stroke 12 = .ok (.bipush 99, 2) := by decide +kernel
theorem dX9_stroke_14 : decode cX9_stroke 14 = .ok (.invokestatic 87, 3) := by decide +kernel
theorem dX9_stroke_17 : decode cX9_stroke 17 = .ok (.ifCond .eq 39, 3) := by decide +kernel
theorem dX9_stroke_20 : decode cX9_stroke 20 = .ok (.iload_n 3, 1) := by decide +kernel
theorem dX9_stroke_21 : decode cX9_stroke 21 = .ok (.iconst 0, 1) := by decide +kernel
theorem dX9_stroke_22 : decode cX9_stroke 22 = .ok (.bipush 99, 2) := by decide +kernel
theorem dX9_stroke_24 : decode cX9_stroke 24 = .ok (.invokestatic 87, 3) := by decide +kernel
theorem dX9_stroke_27 : decode cX9_stroke 27 = .ok (.ifCond .eq 29, 3) := by decide +kernel
theorem dX9_stroke_30 : decode cX9_stroke 30 = .ok (.iload 4, 2) := by decide +kernel
theorem dX9_stroke_32 : decode cX9_stroke 32 = .ok (.iconst 0, 1) := by decide +kernel
theorem dX9_stroke_33 : decode cX9_stroke 33 = .ok (.bipush 99, 2) := by decide +kernel
theorem dX9_stroke_35 : decode cX9_stroke 35 = .ok (.invokestatic 87, 3) := by decide +kernel
theorem dX9_stroke_38 : decode cX9_stroke 38 = .ok (.ifCond .eq 18, 3) := by decide +kernel
theorem dX9_stroke_41 : decode cX9_stroke 41 = .ok (.iload_n 1, 1) := by decide +kernel
theorem dX9_stroke_42 : decode cX9_stroke 42 = .ok (.iload_n 3, 1) := by decide +kernel
theorem dX9_stroke_43 : decode cX9_stroke 43 = .ok (.if_icmp .ne 9, 3) := by decide +kernel
theorem dX9_stroke_46 : decode cX9_stroke 46 = .ok (.iload_n 2, 1) := by decide +kernel
theorem dX9_stroke_47 : decode cX9_stroke 47 = .ok (.iload 4, 2) := by decide +kernel
theorem dX9_stroke_49 : decode cX9_stroke 49 = .ok (.if_icmp .eq 7, 3) := by decide +kernel
theorem dX9_stroke_52 : decode cX9_stroke 52 = .ok (.iconst 1, 1) := by decide +kernel
theorem dX9_stroke_53 : decode cX9_stroke 53 = .ok (.goto 4, 3) := by decide +kernel
theorem dX9_stroke_56 : decode cX9_stroke 56 = .ok (.iconst 0, 1) := by decide +kernel
theorem dX9_stroke_57 : decode cX9_stroke 57 = .ok (.istore 5, 2) := by decide +kernel
theorem dX9_stroke_59 : decode cX9_stroke 59 = .ok (.aload_n 0, 1) := by decide +kernel
theorem dX9_stroke_60 : decode cX9_stroke 60 = .ok (.iload 5, 2) := by decide +kernel
theorem dX9_stroke_62 : decode cX9_stroke 62 = .ok (.aload_n 0, 1) := by decide +kernel
theorem dX9_stroke_63 : decode cX9_stroke 63 = .ok (.getfield 94, 3) := by decide +kernel
theorem dX9_stroke_66 : decode cX9_stroke 66 = .ok (.bipush 8, 2) := by decide +kernel
theorem dX9_stroke_68 : decode cX9_stroke 68 = .ok (.if_icmp .ge 7, 3) := by decide +kernel
theorem dX9_stroke_71 : decode cX9_stroke 71 = .ok (.iconst 1, 1) := by decide +kernel
theorem dX9_stroke_72 : decode cX9_stroke 72 = .ok (.goto 4, 3) := by decide +kernel
theorem dX9_stroke_75 : decode cX9_stroke 75 = .ok (.iconst 0, 1) := by decide +kernel
theorem dX9_stroke_76 : decode cX9_stroke 76 = .ok (.iconst 1, 1) := by decide +kernel
theorem dX9_stroke_77 : decode cX9_stroke 77 = .ok (.invokevirtual 97, 3) := by decide +kernel
theorem dX9_stroke_80 : decode cX9_stroke 80 = .ok (.ifCond .ne 5, 3) := by decide +kernel
theorem dX9_stroke_83 : decode cX9_stroke 83 = .ok (.iconst 0, 1) := by decide +kernel
theorem dX9_stroke_84 : decode cX9_stroke 84 = .ok (.ireturn, 1) := by decide +kernel
theorem dX9_stroke_85 : decode cX9_stroke 85 = .ok (.aload_n 0, 1) := by decide +kernel
theorem dX9_stroke_86 : decode cX9_stroke 86 = .ok (.getfield 7, 3) := by decide +kernel
theorem dX9_stroke_89 : decode cX9_stroke 89 = .ok (.iconst 4, 1) := by decide +kernel
theorem dX9_stroke_90 : decode cX9_stroke 90 = .ok (.aload_n 0, 1) := by decide +kernel
theorem dX9_stroke_91 : decode cX9_stroke 91 = .ok (.getfield 94, 3) := by decide +kernel
theorem dX9_stroke_94 : decode cX9_stroke 94 = .ok (.imul, 1) := by decide +kernel
theorem dX9_stroke_95 : decode cX9_stroke 95 = .ok (.iload_n 1, 1) := by decide +kernel
theorem dX9_stroke_96 : decode cX9_stroke 96 = .ok (.iastore, 1) := by decide +kernel
theorem dX9_stroke_97 : decode cX9_stroke 97 = .ok (.aload_n 0, 1) := by decide +kernel
theorem dX9_stroke_98 : decode cX9_stroke 98 = .ok (.getfield 7, 3) := by decide +kernel
theorem dX9_stroke_101 : decode cX9_stroke 101 = .ok (.iconst 4, 1) := by decide +kernel
theorem dX9_stroke_102 : decode cX9_stroke 102 = .ok (.aload_n 0, 1) := by decide +kernel
theorem dX9_stroke_103 : decode cX9_stroke 103 = .ok (.getfield 94, 3) := by decide +kernel
theorem dX9_stroke_106 : decode cX9_stroke 106 = .ok (.imul, 1) := by decide +kernel
theorem dX9_stroke_107 : decode cX9_stroke 107 = .ok (.iconst 1, 1) := by decide +kernel
theorem dX9_stroke_108 : decode cX9_stroke 108 = .ok (.iadd, 1) := by decide +kernel
theorem dX9_stroke_109 : decode cX9_stroke 109 = .ok (.iload_n 2, 1) := by decide +kernel
theorem dX9_stroke_110 : decode cX9_stroke 110 = .ok (.iastore, 1) := by decide +kernel
theorem dX9_stroke_111 : decode cX9_stroke 111 = .ok (.aload_n 0, 1) := by decide +kernel
theorem dX9_stroke_112 : decode cX9_stroke 112 = .ok (.getfield 7, 3) := by decide +kernel
theorem dX9_stroke_115 : decode cX9_stroke 115 = .ok (.iconst 4, 1) := by decide +kernel
theorem dX9_stroke_116 : decode cX9_stroke 116 = .ok (.aload_n 0, 1) := by decide +kernel
theorem dX9_stroke_117 : decode cX9_stroke 117 = .ok (.getfield 94, 3) := by decide +kernel
theorem dX9_stroke_120 : decode cX9_stroke 120 = .ok (.imul, 1) := by decide +kernel
theorem dX9_stroke_121 : decode cX9_stroke 121 = .ok (.iconst 2, 1) := by decide +kernel
theorem dX9_stroke_122 : decode cX9_stroke 122 = .ok (.iadd, 1) := by decide +kernel
theorem dX9_stroke_123 : decode cX9_stroke 123 = .ok (.iload_n 3, 1) := by decide +kernel
theorem dX9_stroke_124 : decode cX9_stroke 124 = .ok (.iastore, 1) := by decide +kernel
theorem dX9_stroke_125 : decode cX9_stroke 125 = .ok (.aload_n 0, 1) := by decide +kernel
theorem dX9_stroke_126 : decode cX9_stroke 126 = .ok (.getfield 7, 3) := by decide +kernel
theorem dX9_stroke_129 : decode cX9_stroke 129 = .ok (.iconst 4, 1) := by decide +kernel
theorem dX9_stroke_130 : decode cX9_stroke 130 = .ok (.aload_n 0, 1) := by decide +kernel
theorem dX9_stroke_131 : decode cX9_stroke 131 = .ok (.getfield 94, 3) := by decide +kernel
theorem dX9_stroke_134 : decode cX9_stroke 134 = .ok (.imul, 1) := by decide +kernel
theorem dX9_stroke_135 : decode cX9_stroke 135 = .ok (.iconst 3, 1) := by decide +kernel
theorem dX9_stroke_136 : decode cX9_stroke 136 = .ok (.iadd, 1) := by decide +kernel
theorem dX9_stroke_137 : decode cX9_stroke 137 = .ok (.iload 4, 2) := by decide +kernel
theorem dX9_stroke_139 : decode cX9_stroke 139 = .ok (.iastore, 1) := by decide +kernel
theorem dX9_stroke_140 : decode cX9_stroke 140 = .ok (.aload_n 0, 1) := by decide +kernel
theorem dX9_stroke_141 : decode cX9_stroke 141 = .ok (.dup, 1) := by decide +kernel
theorem dX9_stroke_142 : decode cX9_stroke 142 = .ok (.getfield 94, 3) := by decide +kernel
theorem dX9_stroke_145 : decode cX9_stroke 145 = .ok (.iconst 1, 1) := by decide +kernel
theorem dX9_stroke_146 : decode cX9_stroke 146 = .ok (.iadd, 1) := by decide +kernel
theorem dX9_stroke_147 : decode cX9_stroke 147 = .ok (.putfield 94, 3) := by decide +kernel
theorem dX9_stroke_150 : decode cX9_stroke 150 = .ok (.aload_n 0, 1) := by decide +kernel
theorem dX9_stroke_151 : decode cX9_stroke 151 = .ok (.getfield 94, 3) := by decide +kernel
theorem dX9_stroke_154 : decode cX9_stroke 154 = .ok (.ireturn, 1) := by decide +kernel
theorem dX9_clear_0 : decode cX9_clear 0 = .ok (.aload_n 0, 1) := by decide +kernel
theorem dX9_clear_1 : decode cX9_clear 1 = .ok (.iconst 0, 1) := by decide +kernel
theorem dX9_clear_2 : decode cX9_clear 2 = .ok (.putfield 80, 3) := by decide +kernel
theorem dX9_clear_5 : decode cX9_clear 5 = .ok (.aload_n 0, 1) := by decide +kernel
theorem dX9_clear_6 : decode cX9_clear 6 = .ok (.getfield 94, 3) := by decide +kernel
theorem dX9_clear_9 : decode cX9_clear 9 = .ok (.istore_n 1, 1) := by decide +kernel
theorem dX9_clear_10 : decode cX9_clear 10 = .ok (.aload_n 0, 1) := by decide +kernel
theorem dX9_clear_11 : decode cX9_clear 11 = .ok (.iconst 0, 1) := by decide +kernel
theorem dX9_clear_12 : decode cX9_clear 12 = .ok (.putfield 94, 3) := by decide +kernel
theorem dX9_clear_15 : decode cX9_clear 15 = .ok (.iload_n 1, 1) := by decide +kernel
theorem dX9_clear_16 : decode cX9_clear 16 = .ok (.ireturn, 1) := by decide +kernel
set_option maxRecDepth 20000 in
theorem ggX9_sign_X9_in : GoodIn wsX9_sign wsX9_in := goodIn_r _ [9] (by decide +kernel) (by decide +kernel)
set_option maxRecDepth 20000 in
theorem gX9_sign_X9_in : GoodIn wsX9_sign (va_wsS RX9 87 yX9_in wsX9_in) := goodIn_app (goodIn_of _ (by decide +kernel)) ggX9_sign_X9_in
set_option maxRecDepth 20000 in
theorem ggX9_sign_X9_goes : GoodIn wsX9_sign wsX9_goes := goodIn_r _ [13, 14, 15, 16, 17, 18, 19, 20, 21, 22, 23, 24, 25, 26, 27, 28, 29, 30, 31, 32, 33, 34, 35, 36, 37, 38, 39, 40, 41, 42, 43] (by decide +kernel) (by decide +kernel)
set_option maxRecDepth 20000 in
theorem gX9_sign_X9_goes : GoodIn wsX9_sign (wsV RX9 97 RX9 yX9_goes wsX9_goes) := goodIn_app (goodIn_of _ (by decide +kernel)) ggX9_sign_X9_goes
theorem dX9_sign_0 : decode cX9_sign 0 = .ok (.aload_n 0, 1) := by decide +kernel
theorem dX9_sign_1 : decode cX9_sign 1 = .ok (.aload_n 0, 1) := by decide +kernel
theorem dX9_sign_2 : decode cX9_sign 2 = .ok (.getfield 94, 3) := by decide +kernel
theorem dX9_sign_5 : decode cX9_sign 5 = .ok (.iconst 1, 1) := by decide +kernel
theorem dX9_sign_6 : decode cX9_sign 6 = .ok (.bipush 6, 2) := by decide +kernel
theorem dX9_sign_8 : decode cX9_sign 8 = .ok (.invokestatic 87, 3) := by decide +kernel
theorem dX9_sign_11 : decode cX9_sign 11 = .ok (.ifCond .eq 16, 3) := by decide +kernel
theorem dX9_sign_14 : decode cX9_sign 14 = .ok (.aload_n 0, 1) := by decide +kernel
theorem dX9_sign_15 : decode cX9_sign 15 = .ok (.getfield 91, 3) := by decide +kernel
theorem dX9_sign_18 : decode cX9_sign 18 = .ok (.bipush 6, 2) := by decide +kernel
theorem dX9_sign_20 : decode cX9_sign 20 = .ok (.if_icmp .ge 7, 3) := by decide +kernel
theorem dX9_sign_23 : decode cX9_sign 23 = .ok (.iconst 1, 1) := by decide +kernel
theorem dX9_sign_24 : decode cX9_sign 24 = .ok (.goto 4, 3) := by decide +kernel
theorem dX9_sign_27 : decode cX9_sign 27 = .ok (.iconst 0, 1) := by decide +kernel
theorem dX9_sign_28 : decode cX9_sign 28 = .ok (.iconst 1, 1) := by decide +kernel
theorem dX9_sign_29 : decode cX9_sign 29 = .ok (.iconst 1, 1) := by decide +kernel
theorem dX9_sign_30 : decode cX9_sign 30 = .ok (.invokevirtual 97, 3) := by decide +kernel
theorem dX9_sign_33 : decode cX9_sign 33 = .ok (.ifCond .ne 5, 3) := by decide +kernel
theorem dX9_sign_36 : decode cX9_sign 36 = .ok (.iconst 0, 1) := by decide +kernel
theorem dX9_sign_37 : decode cX9_sign 37 = .ok (.ireturn, 1) := by decide +kernel
theorem dX9_sign_38 : decode cX9_sign 38 = .ok (.iconst 0, 1) := by decide +kernel
theorem dX9_sign_39 : decode cX9_sign 39 = .ok (.istore_n 1, 1) := by decide +kernel
theorem dX9_sign_40 : decode cX9_sign 40 = .ok (.iload_n 1, 1) := by decide +kernel
theorem dX9_sign_41 : decode cX9_sign 41 = .ok (.iconst 4, 1) := by decide +kernel
theorem dX9_sign_42 : decode cX9_sign 42 = .ok (.aload_n 0, 1) := by decide +kernel
theorem dX9_sign_43 : decode cX9_sign 43 = .ok (.getfield 94, 3) := by decide +kernel
theorem dX9_sign_46 : decode cX9_sign 46 = .ok (.imul, 1) := by decide +kernel
theorem dX9_sign_47 : decode cX9_sign 47 = .ok (.if_icmp .ge 29, 3) := by decide +kernel
theorem dX9_sign_50 : decode cX9_sign 50 = .ok (.aload_n 0, 1) := by decide +kernel
theorem dX9_sign_51 : decode cX9_sign 51 = .ok (.getfield 16, 3) := by decide +kernel
theorem dX9_sign_54 : decode cX9_sign 54 = .ok (.bipush 24, 2) := by decide +kernel
theorem dX9_sign_56 : decode cX9_sign 56 = .ok (.aload_n 0, 1) := by decide +kernel
theorem dX9_sign_57 : decode cX9_sign 57 = .ok (.getfield 91, 3) := by decide +kernel
theorem dX9_sign_60 : decode cX9_sign 60 = .ok (.imul, 1) := by decide +kernel
theorem dX9_sign_61 : decode cX9_sign 61 = .ok (.iload_n 1, 1) := by decide +kernel
theorem dX9_sign_62 : decode cX9_sign 62 = .ok (.iadd, 1) := by decide +kernel
theorem dX9_sign_63 : decode cX9_sign 63 = .ok (.aload_n 0, 1) := by decide +kernel
theorem dX9_sign_64 : decode cX9_sign 64 = .ok (.getfield 7, 3) := by decide +kernel
theorem dX9_sign_67 : decode cX9_sign 67 = .ok (.iload_n 1, 1) := by decide +kernel
theorem dX9_sign_68 : decode cX9_sign 68 = .ok (.iaload, 1) := by decide +kernel
theorem dX9_sign_69 : decode cX9_sign 69 = .ok (.iastore, 1) := by decide +kernel
theorem dX9_sign_70 : decode cX9_sign 70 = .ok (.iinc 1 1, 3) := by decide +kernel
theorem dX9_sign_73 : decode cX9_sign 73 = .ok (.goto (-33), 3) := by decide +kernel
theorem dX9_sign_76 : decode cX9_sign 76 = .ok (.aload_n 0, 1) := by decide +kernel
theorem dX9_sign_77 : decode cX9_sign 77 = .ok (.getfield 13, 3) := by decide +kernel
theorem dX9_sign_80 : decode cX9_sign 80 = .ok (.aload_n 0, 1) := by decide +kernel
theorem dX9_sign_81 : decode cX9_sign 81 = .ok (.getfield 91, 3) := by decide +kernel
theorem dX9_sign_84 : decode cX9_sign 84 = .ok (.aload_n 0, 1) := by decide +kernel
theorem dX9_sign_85 : decode cX9_sign 85 = .ok (.getfield 94, 3) := by decide +kernel
theorem dX9_sign_88 : decode cX9_sign 88 = .ok (.iastore, 1) := by decide +kernel
theorem dX9_sign_89 : decode cX9_sign 89 = .ok (.aload_n 0, 1) := by decide +kernel
theorem dX9_sign_90 : decode cX9_sign 90 = .ok (.iconst 0, 1) := by decide +kernel
theorem dX9_sign_91 : decode cX9_sign 91 = .ok (.putfield 94, 3) := by decide +kernel
theorem dX9_sign_94 : decode cX9_sign 94 = .ok (.aload_n 0, 1) := by decide +kernel
theorem dX9_sign_95 : decode cX9_sign 95 = .ok (.dup, 1) := by decide +kernel
theorem dX9_sign_96 : decode cX9_sign 96 = .ok (.getfield 91, 3) := by decide +kernel
theorem dX9_sign_99 : decode cX9_sign 99 = .ok (.iconst 1, 1) := by decide +kernel
theorem dX9_sign_100 : decode cX9_sign 100 = .ok (.iadd, 1) := by decide +kernel
theorem dX9_sign_101 : decode cX9_sign 101 = .ok (.putfield 91, 3) := by decide +kernel
theorem dX9_sign_104 : decode cX9_sign 104 = .ok (.aload_n 0, 1) := by decide +kernel
theorem dX9_sign_105 : decode cX9_sign 105 = .ok (.getfield 91, 3) := by decide +kernel
theorem dX9_sign_108 : decode cX9_sign 108 = .ok (.iconst 1, 1) := by decide +kernel
theorem dX9_sign_109 : decode cX9_sign 109 = .ok (.isub, 1) := by decide +kernel
theorem dX9_sign_110 : decode cX9_sign 110 = .ok (.ireturn, 1) := by decide +kernel
set_option maxRecDepth 20000 in
theorem ggX9_isPaper_X9_in : GoodIn wsX9_isPaper wsX9_in := goodIn_r _ [4] (by decide +kernel) (by decide +kernel)
set_option maxRecDepth 20000 in
theorem gX9_isPaper_X9_in : GoodIn wsX9_isPaper (va_wsS RX9 87 yX9_in wsX9_in) := goodIn_app (goodIn_of _ (by decide +kernel)) ggX9_isPaper_X9_in
theorem dX9_isPaper_0 : decode cX9_isPaper 0 = .ok (.iload_n 0, 1) := by decide +kernel
theorem dX9_isPaper_1 : decode cX9_isPaper 1 = .ok (.iconst 0, 1) := by decide +kernel
theorem dX9_isPaper_2 : decode cX9_isPaper 2 = .ok (.iconst 2, 1) := by decide +kernel
theorem dX9_isPaper_3 : decode cX9_isPaper 3 = .ok (.invokestatic 87, 3) := by decide +kernel
theorem dX9_isPaper_6 : decode cX9_isPaper 6 = .ok (.ireturn, 1) := by decide +kernel
set_option maxRecDepth 20000 in
theorem ggX9_buy_X9_isPaper : GoodIn wsX9_buy wsX9_isPaper := goodIn_r _ [5, 6, 7, 4, 8] (by decide +kernel) (by decide +kernel)
set_option maxRecDepth 20000 in
theorem gX9_buy_X9_isPaper : GoodIn wsX9_buy (va_wsS RX9 101 yX9_isPaper wsX9_isPaper) := goodIn_app (goodIn_of _ (by decide +kernel)) ggX9_buy_X9_isPaper
set_option maxRecDepth 20000 in
theorem ggX9_buy_X9_in : GoodIn wsX9_buy wsX9_in := goodIn_r _ [8] (by decide +kernel) (by decide +kernel)
set_option maxRecDepth 20000 in
theorem gX9_buy_X9_in : GoodIn wsX9_buy (va_wsS RX9 87 yX9_in wsX9_in) := goodIn_app (goodIn_of _ (by decide +kernel)) ggX9_buy_X9_in
set_option maxRecDepth 20000 in
theorem ggX9_buy_X9_goes : GoodIn wsX9_buy wsX9_goes := goodIn_r _ [12, 13, 14, 15, 16, 17, 18, 19, 20, 21, 22, 23, 24, 25, 26, 27, 28, 29, 30, 31, 32, 33, 34, 35, 36, 37, 38, 39, 40, 41, 42] (by decide +kernel) (by decide +kernel)
set_option maxRecDepth 20000 in
theorem gX9_buy_X9_goes : GoodIn wsX9_buy (wsV RX9 97 RX9 yX9_goes wsX9_goes) := goodIn_app (goodIn_of _ (by decide +kernel)) ggX9_buy_X9_goes
theorem dX9_buy_0 : decode cX9_buy 0 = .ok (.iload_n 1, 1) := by decide +kernel
theorem dX9_buy_1 : decode cX9_buy 1 = .ok (.invokestatic 101, 3) := by decide +kernel
theorem dX9_buy_4 : decode cX9_buy 4 = .ok (.istore_n 3, 1) := by decide +kernel
theorem dX9_buy_5 : decode cX9_buy 5 = .ok (.aload_n 0, 1) := by decide +kernel
theorem dX9_buy_6 : decode cX9_buy 6 = .ok (.iload_n 3, 1) := by decide +kernel
theorem dX9_buy_7 : decode cX9_buy 7 = .ok (.iload_n 2, 1) := by decide +kernel
theorem dX9_buy_8 : decode cX9_buy 8 = .ok (.iconst 1, 1) := by decide +kernel
theorem dX9_buy_9 : decode cX9_buy 9 = .ok (.bipush 100, 2) := by decide +kernel
theorem dX9_buy_11 : decode cX9_buy 11 = .ok (.invokestatic 87, 3) := by decide +kernel
theorem dX9_buy_14 : decode cX9_buy 14 = .ok (.iload_n 3, 1) := by decide +kernel
theorem dX9_buy_15 : decode cX9_buy 15 = .ok (.ifCond .eq 29, 3) := by decide +kernel
theorem dX9_buy_18 : decode cX9_buy 18 = .ok (.aload_n 0, 1) := by decide +kernel
theorem dX9_buy_19 : decode cX9_buy 19 = .ok (.getfield 19, 3) := by decide +kernel
theorem dX9_buy_22 : decode cX9_buy 22 = .ok (.iload_n 3, 1) := by decide +kernel
theorem dX9_buy_23 : decode cX9_buy 23 = .ok (.ifCond .eq 7, 3) := by decide +kernel
theorem dX9_buy_26 : decode cX9_buy 26 = .ok (.iload_n 1, 1) := by decide +kernel
theorem dX9_buy_27 : decode cX9_buy 27 = .ok (.goto 4, 3) := by decide +kernel
theorem dX9_buy_30 : decode cX9_buy 30 = .ok (.iconst 0, 1) := by decide +kernel
theorem dX9_buy_31 : decode cX9_buy 31 = .ok (.iaload, 1) := by decide +kernel
theorem dX9_buy_32 : decode cX9_buy 32 = .ok (.iload_n 2, 1) := by decide +kernel
theorem dX9_buy_33 : decode cX9_buy 33 = .ok (.iadd, 1) := by decide +kernel
theorem dX9_buy_34 : decode cX9_buy 34 = .ok (.sipush 1000, 3) := by decide +kernel
theorem dX9_buy_37 : decode cX9_buy 37 = .ok (.if_icmp .gt 7, 3) := by decide +kernel
theorem dX9_buy_40 : decode cX9_buy 40 = .ok (.iconst 1, 1) := by decide +kernel
theorem dX9_buy_41 : decode cX9_buy 41 = .ok (.goto 4, 3) := by decide +kernel
theorem dX9_buy_44 : decode cX9_buy 44 = .ok (.iconst 0, 1) := by decide +kernel
theorem dX9_buy_45 : decode cX9_buy 45 = .ok (.invokevirtual 97, 3) := by decide +kernel
theorem dX9_buy_48 : decode cX9_buy 48 = .ok (.ifCond .ne 5, 3) := by decide +kernel
theorem dX9_buy_51 : decode cX9_buy 51 = .ok (.iconst 0, 1) := by decide +kernel
theorem dX9_buy_52 : decode cX9_buy 52 = .ok (.ireturn, 1) := by decide +kernel
theorem dX9_buy_53 : decode cX9_buy 53 = .ok (.aload_n 0, 1) := by decide +kernel
theorem dX9_buy_54 : decode cX9_buy 54 = .ok (.getfield 19, 3) := by decide +kernel
theorem dX9_buy_57 : decode cX9_buy 57 = .ok (.iload_n 1, 1) := by decide +kernel
theorem dX9_buy_58 : decode cX9_buy 58 = .ok (.dup2, 1) := by decide +kernel
theorem dX9_buy_59 : decode cX9_buy 59 = .ok (.iaload, 1) := by decide +kernel
theorem dX9_buy_60 : decode cX9_buy 60 = .ok (.iload_n 2, 1) := by decide +kernel
theorem dX9_buy_61 : decode cX9_buy 61 = .ok (.iadd, 1) := by decide +kernel
theorem dX9_buy_62 : decode cX9_buy 62 = .ok (.iastore, 1) := by decide +kernel
theorem dX9_buy_63 : decode cX9_buy 63 = .ok (.aload_n 0, 1) := by decide +kernel
theorem dX9_buy_64 : decode cX9_buy 64 = .ok (.getfield 19, 3) := by decide +kernel
theorem dX9_buy_67 : decode cX9_buy 67 = .ok (.iload_n 1, 1) := by decide +kernel
theorem dX9_buy_68 : decode cX9_buy 68 = .ok (.iaload, 1) := by decide +kernel
theorem dX9_buy_69 : decode cX9_buy 69 = .ok (.ireturn, 1) := by decide +kernel
set_option maxRecDepth 20000 in
theorem ggX9_rise_X9_isPaper : GoodIn wsX9_rise wsX9_isPaper := goodIn_r _ [6, 7, 8, 5, 9] (by decide +kernel) (by decide +kernel)
set_option maxRecDepth 20000 in
theorem gX9_rise_X9_isPaper : GoodIn wsX9_rise (va_wsS RX9 101 yX9_isPaper wsX9_isPaper) := goodIn_app (goodIn_of _ (by decide +kernel)) ggX9_rise_X9_isPaper
set_option maxRecDepth 20000 in
theorem ggX9_rise_X9_in : GoodIn wsX9_rise wsX9_in := goodIn_r _ [9] (by decide +kernel) (by decide +kernel)
set_option maxRecDepth 20000 in
theorem gX9_rise_X9_in : GoodIn wsX9_rise (va_wsS RX9 87 yX9_in wsX9_in) := goodIn_app (goodIn_of _ (by decide +kernel)) ggX9_rise_X9_in
set_option maxRecDepth 20000 in
theorem ggX9_rise_X9_goes : GoodIn wsX9_rise wsX9_goes := goodIn_r _ [13, 14, 15, 16, 17, 18, 19, 20, 21, 22, 23, 24, 25, 26, 27, 28, 29, 30, 31, 32, 33, 34, 35, 36, 37, 38, 39, 40, 41, 42, 43] (by decide +kernel) (by decide +kernel)
set_option maxRecDepth 20000 in
theorem gX9_rise_X9_goes : GoodIn wsX9_rise (wsV RX9 97 RX9 yX9_goes wsX9_goes) := goodIn_app (goodIn_of _ (by decide +kernel)) ggX9_rise_X9_goes
theorem dX9_rise_0 : decode cX9_rise 0 = .ok (.aload_n 0, 1) := by decide +kernel
theorem dX9_rise_1 : decode cX9_rise 1 = .ok (.iload_n 1, 1) := by decide +kernel
theorem dX9_rise_2 : decode cX9_rise 2 = .ok (.invokestatic 101, 3) := by decide +kernel
theorem dX9_rise_5 : decode cX9_rise 5 = .ok (.iload_n 2, 1) := by decide +kernel
theorem dX9_rise_6 : decode cX9_rise 6 = .ok (.bipush (-10), 2) := by decide +kernel
theorem dX9_rise_8 : decode cX9_rise 8 = .ok (.bipush 10, 2) := by decide +kernel
theorem dX9_rise_10 : decode cX9_rise 10 = .ok (.invokestatic 87, 3) := by decide +kernel
theorem dX9_rise_13 : decode cX9_rise 13 = .ok (.iconst 1, 1) := by decide +kernel
theorem dX9_rise_14 : decode cX9_rise 14 = .ok (.invokevirtual 97, 3) := by decide +kernel
theorem dX9_rise_17 : decode cX9_rise 17 = .ok (.ifCond .ne 5, 3) := by decide +kernel
theorem dX9_rise_20 : decode cX9_rise 20 = .ok (.iconst 0, 1) := by decide +kernel
theorem dX9_rise_21 : decode cX9_rise 21 = .ok (.ireturn, 1) := by decide +kernel
theorem dX9_rise_22 : decode cX9_rise 22 = .ok (.aload_n 0, 1) := by decide +kernel
theorem dX9_rise_23 : decode cX9_rise 23 = .ok (.getfield 25, 3) := by decide +kernel
theorem dX9_rise_26 : decode cX9_rise 26 = .ok (.iload_n 1, 1) := by decide +kernel
theorem dX9_rise_27 : decode cX9_rise 27 = .ok (.iload_n 2, 1) := by decide +kernel
theorem dX9_rise_28 : decode cX9_rise 28 = .ok (.iastore, 1) := by decide +kernel
