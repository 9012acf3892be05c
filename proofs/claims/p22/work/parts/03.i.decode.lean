theorem dX8_judgeAt_17 : decode cX8_judgeAt 17 = .ok (.iload_n 1, 1) := by decide +kernel
theorem dX8_judgeAt_18 : decode cX8_judgeAt 18 = .ok (.aaload, 1) := by decide +kernel
theorem dX8_judgeAt_19 : decode cX8_judgeAt 19 = .ok (.goto 4, 3) := by decide +kernel
theorem dX8_judgeAt_22 : decode cX8_judgeAt 22 = .ok (.aconst_null, 1) := by decide +kernel
theorem dX8_judgeAt_23 : decode cX8_judgeAt 23 = .ok (.areturn, 1) := by decide +kernel
theorem dX8_duelAt_0 : decode cX8_duelAt 0 = .ok (.iload_n 1, 1) := by decide +kernel
theorem dX8_duelAt_1 : decode cX8_duelAt 1 = .ok (.ifCond .lt 21, 3) := by decide +kernel
theorem dX8_duelAt_4 : decode cX8_duelAt 4 = .ok (.iload_n 1, 1) := by decide +kernel
theorem dX8_duelAt_5 : decode cX8_duelAt 5 = .ok (.aload_n 0, 1) := by decide +kernel
theorem dX8_duelAt_6 : decode cX8_duelAt 6 = .ok (.getfield 35, 3) := by decide +kernel
theorem dX8_duelAt_9 : decode cX8_duelAt 9 = .ok (.arraylength, 1) := by decide +kernel
theorem dX8_duelAt_10 : decode cX8_duelAt 10 = .ok (.if_icmp .ge 12, 3) := by decide +kernel
theorem dX8_duelAt_13 : decode cX8_duelAt 13 = .ok (.aload_n 0, 1) := by decide +kernel
theorem dX8_duelAt_14 : decode cX8_duelAt 14 = .ok (.getfield 35, 3) := by decide +kernel
theorem dX8_duelAt_17 : decode cX8_duelAt 17 = .ok (.iload_n 1, 1) := by decide +kernel
theorem dX8_duelAt_18 : decode cX8_duelAt 18 = .ok (.aaload, 1) := by decide +kernel
theorem dX8_duelAt_19 : decode cX8_duelAt 19 = .ok (.goto 4, 3) := by decide +kernel
theorem dX8_duelAt_22 : decode cX8_duelAt 22 = .ok (.aconst_null, 1) := by decide +kernel
theorem dX8_duelAt_23 : decode cX8_duelAt 23 = .ok (.areturn, 1) := by decide +kernel
theorem dX8_rightSeal_0 : decode cX8_rightSeal 0 = .ok (.bipush 101, 2) := by decide +kernel
theorem dX8_rightSeal_2 : decode cX8_rightSeal 2 = .ok (.iload_n 0, 1) := by decide +kernel
theorem dX8_rightSeal_3 : decode cX8_rightSeal 3 = .ok (.imul, 1) := by decide +kernel
theorem dX8_rightSeal_4 : decode cX8_rightSeal 4 = .ok (.bipush 37, 2) := by decide +kernel
theorem dX8_rightSeal_6 : decode cX8_rightSeal 6 = .ok (.iload_n 1, 1) := by decide +kernel
theorem dX8_rightSeal_7 : decode cX8_rightSeal 7 = .ok (.imul, 1) := by decide +kernel
theorem dX8_rightSeal_8 : decode cX8_rightSeal 8 = .ok (.iadd, 1) := by decide +kernel
theorem dX8_rightSeal_9 : decode cX8_rightSeal 9 = .ok (.sipush 1000, 3) := by decide +kernel
theorem dX8_rightSeal_12 : decode cX8_rightSeal 12 = .ok (.irem, 1) := by decide +kernel
theorem dX8_rightSeal_13 : decode cX8_rightSeal 13 = .ok (.ireturn, 1) := by decide +kernel
set_option maxRecDepth 20000 in
theorem ggX8_judgedMark_X8_judgeAt : GoodIn wsX8_judgedMark wsX8_judgeAt := goodIn_r _ [8, 9, 50, 51, 52, 53, 54, 55, 56, 57, 58, 59] (by decide +kernel) (by decide +kernel)
set_option maxRecDepth 20000 in
theorem gX8_judgedMark_X8_judgeAt : GoodIn wsX8_judgedMark (wsV RX8 133 RX8 yX8_judgeAt wsX8_judgeAt) := goodIn_app (goodIn_of _ (by decide +kernel)) ggX8_judgedMark_X8_judgeAt
set_option maxRecDepth 20000 in
theorem ggX8_judgedMark_X8_markByJudge : GoodIn wsX8_judgedMark wsX8_markByJudge := goodIn_r _ [13, 14, 15, 16, 17, 18, 19, 20, 21, 22, 23, 24, 25, 26, 27, 28, 29, 30, 31, 32, 33, 34, 35, 36, 37, 38, 39, 50, 51, 52, 53, 54, 55, 56, 57, 58, 59, 60, 61, 62, 63, 64, 65, 66, 67, 68, 69, 70] (by decide +kernel) (by decide +kernel)
set_option maxRecDepth 20000 in
theorem gX8_judgedMark_X8_markByJudge : GoodIn wsX8_judgedMark (wsV RX8 295 RX8 yX8_markByJudge wsX8_markByJudge) := goodIn_app (goodIn_of _ (by decide +kernel)) ggX8_judgedMark_X8_markByJudge
theorem dX8_judgedMark_0 : decode cX8_judgedMark 0 = .ok (.aload_n 0, 1) := by decide +kernel
theorem dX8_judgedMark_1 : decode cX8_judgedMark 1 = .ok (.aload_n 0, 1) := by decide +kernel
theorem dX8_judgedMark_2 : decode cX8_judgedMark 2 = .ok (.aload_n 1, 1) := by decide +kernel
theorem dX8_judgedMark_3 : decode cX8_judgedMark 3 = .ok (.getfield 252, 3) := by decide +kernel
theorem dX8_judgedMark_6 : decode cX8_judgedMark 6 = .ok (.invokevirtual 133, 3) := by decide +kernel
theorem dX8_judgedMark_9 : decode cX8_judgedMark 9 = .ok (.aload_n 1, 1) := by decide +kernel
theorem dX8_judgedMark_10 : decode cX8_judgedMark 10 = .ok (.getfield 294, 3) := by decide +kernel
theorem dX8_judgedMark_13 : decode cX8_judgedMark 13 = .ok (.aload_n 2, 1) := by decide +kernel
theorem dX8_judgedMark_14 : decode cX8_judgedMark 14 = .ok (.invokevirtual 295, 3) := by decide +kernel
theorem dX8_judgedMark_17 : decode cX8_judgedMark 17 = .ok (.fstore_n 3, 1) := by decide +kernel
theorem dX8_judgedMark_18 : decode cX8_judgedMark 18 = .ok (.aload_n 1, 1) := by decide +kernel
theorem dX8_judgedMark_19 : decode cX8_judgedMark 19 = .ok (.getfield 249, 3) := by decide +kernel
theorem dX8_judgedMark_22 : decode cX8_judgedMark 22 = .ok (.iconst (-1), 1) := by decide +kernel
theorem dX8_judgedMark_23 : decode cX8_judgedMark 23 = .ok (.if_icmp .ne 5, 3) := by decide +kernel
theorem dX8_judgedMark_26 : decode cX8_judgedMark 26 = .ok (.fload_n 3, 1) := by decide +kernel
theorem dX8_judgedMark_27 : decode cX8_judgedMark 27 = .ok (.freturn, 1) := by decide +kernel
theorem dX8_judgedMark_28 : decode cX8_judgedMark 28 = .ok (.aload_n 0, 1) := by decide +kernel
theorem dX8_judgedMark_29 : decode cX8_judgedMark 29 = .ok (.aload_n 0, 1) := by decide +kernel
theorem dX8_judgedMark_30 : decode cX8_judgedMark 30 = .ok (.aload_n 1, 1) := by decide +kernel
theorem dX8_judgedMark_31 : decode cX8_judgedMark 31 = .ok (.getfield 249, 3) := by decide +kernel
theorem dX8_judgedMark_34 : decode cX8_judgedMark 34 = .ok (.invokevirtual 133, 3) := by decide +kernel
theorem dX8_judgedMark_37 : decode cX8_judgedMark 37 = .ok (.aload_n 1, 1) := by decide +kernel
theorem dX8_judgedMark_38 : decode cX8_judgedMark 38 = .ok (.getfield 294, 3) := by decide +kernel
theorem dX8_judgedMark_41 : decode cX8_judgedMark 41 = .ok (.aload_n 2, 1) := by decide +kernel
theorem dX8_judgedMark_42 : decode cX8_judgedMark 42 = .ok (.invokevirtual 295, 3) := by decide +kernel
theorem dX8_judgedMark_45 : decode cX8_judgedMark 45 = .ok (.fstore 4, 2) := by decide +kernel
theorem dX8_judgedMark_47 : decode cX8_judgedMark 47 = .ok (.fload_n 3, 1) := by decide +kernel
theorem dX8_judgedMark_48 : decode cX8_judgedMark 48 = .ok (.fload 4, 2) := by decide +kernel
theorem dX8_judgedMark_50 : decode cX8_judgedMark 50 = .ok (.fadd, 1) := by decide +kernel
theorem dX8_judgedMark_51 : decode cX8_judgedMark 51 = .ok (.fconst 2, 1) := by decide +kernel
theorem dX8_judgedMark_52 : decode cX8_judgedMark 52 = .ok (.fdiv, 1) := by decide +kernel
theorem dX8_judgedMark_53 : decode cX8_judgedMark 53 = .ok (.freturn, 1) := by decide +kernel
set_option maxRecDepth 20000 in
theorem ggX8_markByJudge_X1_knowsOn : GoodIn wsX8_markByJudge wsX1_knowsOn := goodIn_r _ [6, 7, 37] (by decide +kernel) (by decide +kernel)
set_option maxRecDepth 20000 in
theorem gX8_markByJudge_X1_knowsOn : GoodIn wsX8_markByJudge (wsV RX8 142 RX1 yX1_knowsOn wsX1_knowsOn) := goodIn_app (goodIn_of _ (by decide +kernel)) ggX8_markByJudge_X1_knowsOn
set_option maxRecDepth 20000 in
theorem ggX8_markByJudge_X7_markBy : GoodIn wsX8_markByJudge wsX7_markBy := goodIn_r _ [12, 13, 14, 15, 16, 17, 18, 19, 20, 21, 22, 23, 24, 25, 26, 38, 39, 40, 41, 42, 43, 44, 45, 46, 47] (by decide +kernel) (by decide +kernel)
set_option maxRecDepth 20000 in
theorem gX8_markByJudge_X7_markBy : GoodIn wsX8_markByJudge (wsV RX8 265 RX7 yX7_markBy wsX7_markBy) := goodIn_app (goodIn_of _ (by decide +kernel)) ggX8_markByJudge_X7_markBy
theorem dX8_markByJudge_0 : decode cX8_markByJudge 0 = .ok (.fconst 0, 1) := by decide +kernel
theorem dX8_markByJudge_1 : decode cX8_markByJudge 1 = .ok (.fstore 4, 2) := by decide +kernel
theorem dX8_markByJudge_3 : decode cX8_markByJudge 3 = .ok (.aload_n 1, 1) := by decide +kernel
theorem dX8_markByJudge_4 : decode cX8_markByJudge 4 = .ok (.ifnonnull 6, 3) := by decide +kernel
theorem dX8_markByJudge_7 : decode cX8_markByJudge 7 = .ok (.fload 4, 2) := by decide +kernel
theorem dX8_markByJudge_9 : decode cX8_markByJudge 9 = .ok (.freturn, 1) := by decide +kernel
theorem dX8_markByJudge_10 : decode cX8_markByJudge 10 = .ok (.iconst 0, 1) := by decide +kernel
theorem dX8_markByJudge_11 : decode cX8_markByJudge 11 = .ok (.istore 5, 2) := by decide +kernel
theorem dX8_markByJudge_13 : decode cX8_markByJudge 13 = .ok (.iload 5, 2) := by decide +kernel
theorem dX8_markByJudge_15 : decode cX8_markByJudge 15 = .ok (.aload_n 0, 1) := by decide +kernel
theorem dX8_markByJudge_16 : decode cX8_markByJudge 16 = .ok (.getfield 23, 3) := by decide +kernel
theorem dX8_markByJudge_19 : decode cX8_markByJudge 19 = .ok (.arraylength, 1) := by decide +kernel
theorem dX8_markByJudge_20 : decode cX8_markByJudge 20 = .ok (.if_icmp .ge 59, 3) := by decide +kernel
theorem dX8_markByJudge_23 : decode cX8_markByJudge 23 = .ok (.aload_n 0, 1) := by decide +kernel
theorem dX8_markByJudge_24 : decode cX8_markByJudge 24 = .ok (.getfield 23, 3) := by decide +kernel
theorem dX8_markByJudge_27 : decode cX8_markByJudge 27 = .ok (.iload 5, 2) := by decide +kernel
theorem dX8_markByJudge_29 : decode cX8_markByJudge 29 = .ok (.aaload, 1) := by decide +kernel
theorem dX8_markByJudge_30 : decode cX8_markByJudge 30 = .ok (.ifnull 43, 3) := by decide +kernel
theorem dX8_markByJudge_33 : decode cX8_markByJudge 33 = .ok (.aload_n 1, 1) := by decide +kernel
theorem dX8_markByJudge_34 : decode cX8_markByJudge 34 = .ok (.iload 5, 2) := by decide +kernel
theorem dX8_markByJudge_36 : decode cX8_markByJudge 36 = .ok (.iload_n 2, 1) := by decide +kernel
theorem dX8_markByJudge_37 : decode cX8_markByJudge 37 = .ok (.invokevirtual 142, 3) := by decide +kernel
theorem dX8_markByJudge_40 : decode cX8_markByJudge 40 = .ok (.ifCond .eq 33, 3) := by decide +kernel
theorem dX8_markByJudge_43 : decode cX8_markByJudge 43 = .ok (.aload_n 3, 1) := by decide +kernel
theorem dX8_markByJudge_44 : decode cX8_markByJudge 44 = .ok (.aload_n 0, 1) := by decide +kernel
theorem dX8_markByJudge_45 : decode cX8_markByJudge 45 = .ok (.getfield 23, 3) := by decide +kernel
theorem dX8_markByJudge_48 : decode cX8_markByJudge 48 = .ok (.iload 5, 2) := by decide +kernel
theorem dX8_markByJudge_50 : decode cX8_markByJudge 50 = .ok (.aaload, 1) := by decide +kernel
theorem dX8_markByJudge_51 : decode cX8_markByJudge 51 = .ok (.invokevirtual 265, 3) := by decide +kernel
theorem dX8_markByJudge_54 : decode cX8_markByJudge 54 = .ok (.fstore 6, 2) := by decide +kernel
theorem dX8_markByJudge_56 : decode cX8_markByJudge 56 = .ok (.fload 6, 2) := by decide +kernel
theorem dX8_markByJudge_58 : decode cX8_markByJudge 58 = .ok (.fload 4, 2) := by decide +kernel
theorem dX8_markByJudge_60 : decode cX8_markByJudge 60 = .ok (.fcmp .l, 1) := by decide +kernel
theorem dX8_markByJudge_61 : decode cX8_markByJudge 61 = .ok (.ifCond .le 8, 3) := by decide +kernel
theorem dX8_markByJudge_64 : decode cX8_markByJudge 64 = .ok (.fload 6, 2) := by decide +kernel
theorem dX8_markByJudge_66 : decode cX8_markByJudge 66 = .ok (.goto 5, 3) := by decide +kernel
theorem dX8_markByJudge_69 : decode cX8_markByJudge 69 = .ok (.fload 4, 2) := by decide +kernel
theorem dX8_markByJudge_71 : decode cX8_markByJudge 71 = .ok (.fstore 4, 2) := by decide +kernel
theorem dX8_markByJudge_73 : decode cX8_markByJudge 73 = .ok (.iinc 5 1, 3) := by decide +kernel
theorem dX8_markByJudge_76 : decode cX8_markByJudge 76 = .ok (.goto (-63), 3) := by decide +kernel
theorem dX8_markByJudge_79 : decode cX8_markByJudge 79 = .ok (.fload 4, 2) := by decide +kernel
theorem dX8_markByJudge_81 : decode cX8_markByJudge 81 = .ok (.freturn, 1) := by decide +kernel
set_option maxRecDepth 20000 in
theorem ggX8_roundGoesTo_X0_writingAt : GoodIn wsX8_roundGoesTo wsX0_writingAt := goodIn_r _ [6, 7, 55, 56, 57, 58, 59, 60, 61, 62, 63, 64] (by decide +kernel) (by decide +kernel)
set_option maxRecDepth 20000 in
theorem gX8_roundGoesTo_X0_writingAt : GoodIn wsX8_roundGoesTo (wsV RX8 234 RX0 yX0_writingAt wsX0_writingAt) := goodIn_app (goodIn_of _ (by decide +kernel)) ggX8_roundGoesTo_X0_writingAt
set_option maxRecDepth 20000 in
theorem ggX8_roundGoesTo_X8_judgedMark : GoodIn wsX8_roundGoesTo wsX8_judgedMark := goodIn_r _ [12, 13, 14, 15, 16, 17, 18, 11, 19, 20, 21, 22, 23, 24, 25, 26, 27, 28, 29, 30, 31, 32, 33, 34, 35, 36, 37, 38, 39, 40, 41, 42, 43, 44, 45, 46, 47, 48, 49, 50, 55, 56, 57, 58, 59, 60, 61, 62, 63, 64, 65, 66, 67, 68, 69, 70, 71, 72, 73, 74, 75, 51, 52, 53, 54, 76, 77, 78, 79, 80, 81] (by decide +kernel) (by decide +kernel)
set_option maxRecDepth 20000 in
theorem gX8_roundGoesTo_X8_judgedMark : GoodIn wsX8_roundGoesTo (wsV RX8 286 RX8 yX8_judgedMark wsX8_judgedMark) := goodIn_app (goodIn_of _ (by decide +kernel)) ggX8_roundGoesTo_X8_judgedMark
theorem dX8_roundGoesTo_0 : decode cX8_roundGoesTo 0 = .ok (.aload_n 1, 1) := by decide +kernel
theorem dX8_roundGoesTo_1 : decode cX8_roundGoesTo 1 = .ok (.iload_n 2, 1) := by decide +kernel
theorem dX8_roundGoesTo_2 : decode cX8_roundGoesTo 2 = .ok (.iconst 0, 1) := by decide +kernel
theorem dX8_roundGoesTo_3 : decode cX8_roundGoesTo 3 = .ok (.invokevirtual 234, 3) := by decide +kernel
theorem dX8_roundGoesTo_6 : decode cX8_roundGoesTo 6 = .ok (.astore_n 3, 1) := by decide +kernel
theorem dX8_roundGoesTo_7 : decode cX8_roundGoesTo 7 = .ok (.aload_n 1, 1) := by decide +kernel
theorem dX8_roundGoesTo_8 : decode cX8_roundGoesTo 8 = .ok (.iload_n 2, 1) := by decide +kernel
theorem dX8_roundGoesTo_9 : decode cX8_roundGoesTo 9 = .ok (.iconst 1, 1) := by decide +kernel
theorem dX8_roundGoesTo_10 : decode cX8_roundGoesTo 10 = .ok (.invokevirtual 234, 3) := by decide +kernel
theorem dX8_roundGoesTo_13 : decode cX8_roundGoesTo 13 = .ok (.astore 4, 2) := by decide +kernel
theorem dX8_roundGoesTo_15 : decode cX8_roundGoesTo 15 = .ok (.aload_n 3, 1) := by decide +kernel
theorem dX8_roundGoesTo_16 : decode cX8_roundGoesTo 16 = .ok (.ifnull 23, 3) := by decide +kernel
theorem dX8_roundGoesTo_19 : decode cX8_roundGoesTo 19 = .ok (.aload 4, 2) := by decide +kernel
theorem dX8_roundGoesTo_21 : decode cX8_roundGoesTo 21 = .ok (.ifnull 18, 3) := by decide +kernel
theorem dX8_roundGoesTo_24 : decode cX8_roundGoesTo 24 = .ok (.aload_n 3, 1) := by decide +kernel
theorem dX8_roundGoesTo_25 : decode cX8_roundGoesTo 25 = .ok (.getfield 244, 3) := by decide +kernel
theorem dX8_roundGoesTo_28 : decode cX8_roundGoesTo 28 = .ok (.ifCond .eq 13, 3) := by decide +kernel
theorem dX8_roundGoesTo_31 : decode cX8_roundGoesTo 31 = .ok (.aload 4, 2) := by decide +kernel
theorem dX8_roundGoesTo_33 : decode cX8_roundGoesTo 33 = .ok (.getfield 244, 3) := by decide +kernel
theorem dX8_roundGoesTo_36 : decode cX8_roundGoesTo 36 = .ok (.ifCond .eq 5, 3) := by decide +kernel
theorem dX8_roundGoesTo_39 : decode cX8_roundGoesTo 39 = .ok (.iconst 0, 1) := by decide +kernel
theorem dX8_roundGoesTo_40 : decode cX8_roundGoesTo 40 = .ok (.ireturn, 1) := by decide +kernel
theorem dX8_roundGoesTo_41 : decode cX8_roundGoesTo 41 = .ok (.aload_n 3, 1) := by decide +kernel
theorem dX8_roundGoesTo_42 : decode cX8_roundGoesTo 42 = .ok (.getfield 244, 3) := by decide +kernel
theorem dX8_roundGoesTo_45 : decode cX8_roundGoesTo 45 = .ok (.ifCond .eq 5, 3) := by decide +kernel
theorem dX8_roundGoesTo_48 : decode cX8_roundGoesTo 48 = .ok (.iconst (-1), 1) := by decide +kernel
theorem dX8_roundGoesTo_49 : decode cX8_roundGoesTo 49 = .ok (.ireturn, 1) := by decide +kernel
theorem dX8_roundGoesTo_50 : decode cX8_roundGoesTo 50 = .ok (.aload 4, 2) := by decide +kernel
theorem dX8_roundGoesTo_52 : decode cX8_roundGoesTo 52 = .ok (.getfield 244, 3) := by decide +kernel
theorem dX8_roundGoesTo_55 : decode cX8_roundGoesTo 55 = .ok (.ifCond .eq 5, 3) := by decide +kernel
theorem dX8_roundGoesTo_58 : decode cX8_roundGoesTo 58 = .ok (.iconst 1, 1) := by decide +kernel
theorem dX8_roundGoesTo_59 : decode cX8_roundGoesTo 59 = .ok (.ireturn, 1) := by decide +kernel
theorem dX8_roundGoesTo_60 : decode cX8_roundGoesTo 60 = .ok (.aload_n 0, 1) := by decide +kernel
theorem dX8_roundGoesTo_61 : decode cX8_roundGoesTo 61 = .ok (.aload_n 1, 1) := by decide +kernel
theorem dX8_roundGoesTo_62 : decode cX8_roundGoesTo 62 = .ok (.aload_n 3, 1) := by decide +kernel
theorem dX8_roundGoesTo_63 : decode cX8_roundGoesTo 63 = .ok (.invokevirtual 286, 3) := by decide +kernel
theorem dX8_roundGoesTo_66 : decode cX8_roundGoesTo 66 = .ok (.fstore 5, 2) := by decide +kernel
theorem dX8_roundGoesTo_68 : decode cX8_roundGoesTo 68 = .ok (.aload_n 0, 1) := by decide +kernel
theorem dX8_roundGoesTo_69 : decode cX8_roundGoesTo 69 = .ok (.aload_n 1, 1) := by decide +kernel
theorem dX8_roundGoesTo_70 : decode cX8_roundGoesTo 70 = .ok (.aload 4, 2) := by decide +kernel
theorem dX8_roundGoesTo_72 : decode cX8_roundGoesTo 72 = .ok (.invokevirtual 286, 3) := by decide +kernel
theorem dX8_roundGoesTo_75 : decode cX8_roundGoesTo 75 = .ok (.fstore 6, 2) := by decide +kernel
theorem dX8_roundGoesTo_77 : decode cX8_roundGoesTo 77 = .ok (.fload 5, 2) := by decide +kernel
theorem dX8_roundGoesTo_79 : decode cX8_roundGoesTo 79 = .ok (.fload 6, 2) := by decide +kernel
theorem dX8_roundGoesTo_81 : decode cX8_roundGoesTo 81 = .ok (.fcmp .l, 1) := by decide +kernel
theorem dX8_roundGoesTo_82 : decode cX8_roundGoesTo 82 = .ok (.ifCond .ne 5, 3) := by decide +kernel
theorem dX8_roundGoesTo_85 : decode cX8_roundGoesTo 85 = .ok (.iconst 0, 1) := by decide +kernel
theorem dX8_roundGoesTo_86 : decode cX8_roundGoesTo 86 = .ok (.ireturn, 1) := by decide +kernel
theorem dX8_roundGoesTo_87 : decode cX8_roundGoesTo 87 = .ok (.fload 5, 2) := by decide +kernel
theorem dX8_roundGoesTo_89 : decode cX8_roundGoesTo 89 = .ok (.fload 6, 2) := by decide +kernel
theorem dX8_roundGoesTo_91 : decode cX8_roundGoesTo 91 = .ok (.fcmp .l, 1) := by decide +kernel
theorem dX8_roundGoesTo_92 : decode cX8_roundGoesTo 92 = .ok (.ifCond .le 7, 3) := by decide +kernel
theorem dX8_roundGoesTo_95 : decode cX8_roundGoesTo 95 = .ok (.iconst 1, 1) := by decide +kernel
theorem dX8_roundGoesTo_96 : decode cX8_roundGoesTo 96 = .ok (.goto 4, 3) := by decide +kernel
theorem dX8_roundGoesTo_99 : decode cX8_roundGoesTo 99 = .ok (.iconst (-1), 1) := by decide +kernel
theorem dX8_roundGoesTo_100 : decode cX8_roundGoesTo 100 = .ok (.ireturn, 1) := by decide +kernel
set_option maxRecDepth 20000 in
theorem ggX8_countRounds_X8_roundGoesTo : GoodIn wsX8_countRounds wsX8_roundGoesTo := goodIn_r _ [5, 6, 7, 8, 9, 10, 11, 12, 13, 14, 15, 4, 16, 17, 18, 19, 20, 21, 22, 23, 24, 25, 26, 27, 28, 29, 30, 31, 32, 33, 34, 35, 36, 37, 38, 39, 40, 41, 42, 43, 44, 45, 46, 47, 48, 49, 50, 51, 52, 53, 54, 55, 56, 57, 58, 59, 60, 61, 62, 63, 64, 65, 66, 67, 68, 69, 70, 71, 72, 73, 74, 75, 76, 77, 78, 79, 80, 81, 82, 83, 84, 85] (by decide +kernel) (by decide +kernel)
set_option maxRecDepth 20000 in
theorem gX8_countRounds_X8_roundGoesTo : GoodIn wsX8_countRounds (wsV RX8 299 RX8 yX8_roundGoesTo wsX8_roundGoesTo) := goodIn_app (goodIn_of _ (by decide +kernel)) ggX8_countRounds_X8_roundGoesTo
theorem dX8_countRounds_0 : decode cX8_countRounds 0 = .ok (.iconst 0, 1) := by decide +kernel
theorem dX8_countRounds_1 : decode cX8_countRounds 1 = .ok (.istore_n 3, 1) := by decide +kernel
theorem dX8_countRounds_2 : decode cX8_countRounds 2 = .ok (.iconst 0, 1) := by decide +kernel
theorem dX8_countRounds_3 : decode cX8_countRounds 3 = .ok (.istore 4, 2) := by decide +kernel
theorem dX8_countRounds_5 : decode cX8_countRounds 5 = .ok (.iload 4, 2) := by decide +kernel
theorem dX8_countRounds_7 : decode cX8_countRounds 7 = .ok (.iconst 5, 1) := by decide +kernel
theorem dX8_countRounds_8 : decode cX8_countRounds 8 = .ok (.if_icmp .ge 23, 3) := by decide +kernel
theorem dX8_countRounds_11 : decode cX8_countRounds 11 = .ok (.aload_n 0, 1) := by decide +kernel
theorem dX8_countRounds_12 : decode cX8_countRounds 12 = .ok (.aload_n 1, 1) := by decide +kernel
theorem dX8_countRounds_13 : decode cX8_countRounds 13 = .ok (.iload 4, 2) := by decide +kernel
theorem dX8_countRounds_15 : decode cX8_countRounds 15 = .ok (.invokevirtual 299, 3) := by decide +kernel
theorem dX8_countRounds_18 : decode cX8_countRounds 18 = .ok (.iload_n 2, 1) := by decide +kernel
theorem dX8_countRounds_19 : decode cX8_countRounds 19 = .ok (.if_icmp .ne 6, 3) := by decide +kernel
theorem dX8_countRounds_22 : decode cX8_countRounds 22 = .ok (.iinc 3 1, 3) := by decide +kernel
theorem dX8_countRounds_25 : decode cX8_countRounds 25 = .ok (.iinc 4 1, 3) := by decide +kernel
theorem dX8_countRounds_28 : decode cX8_countRounds 28 = .ok (.goto (-23), 3) := by decide +kernel
theorem dX8_countRounds_31 : decode cX8_countRounds 31 = .ok (.iload_n 3, 1) := by decide +kernel
theorem dX8_countRounds_32 : decode cX8_countRounds 32 = .ok (.ireturn, 1) := by decide +kernel
set_option maxRecDepth 20000 in
theorem ggX8_winnerOf_X0_isOver : GoodIn wsX8_winnerOf wsX0_isOver := goodIn_r _ [7, 8, 9, 63, 64, 65, 66, 67, 68, 69, 70, 71, 72] (by decide +kernel) (by decide +kernel)
set_option maxRecDepth 20000 in
theorem gX8_winnerOf_X0_isOver : GoodIn wsX8_winnerOf (wsV RX8 205 RX0 yX0_isOver wsX0_isOver) := goodIn_app (goodIn_of _ (by decide +kernel)) ggX8_winnerOf_X0_isOver
set_option maxRecDepth 20000 in
theorem ggX8_winnerOf_X8_roundGoesTo : GoodIn wsX8_winnerOf wsX8_roundGoesTo := goodIn_r _ [14, 15, 16, 17, 18, 6, 19, 20, 21, 22, 23, 13, 24, 25, 26, 27, 28, 29, 30, 31, 32, 33, 34, 35, 36, 37, 38, 39, 40, 41, 42, 43, 44, 45, 46, 47, 48, 49, 50, 51, 52, 53, 54, 55, 56, 57, 58, 59, 60, 61, 62, 73, 74, 75, 76, 63, 64, 65, 66, 67, 68, 69, 70, 71, 72, 77, 78, 79, 80, 81, 82, 83, 84, 85, 86, 87, 88, 89, 90, 91, 92, 93] (by decide +kernel) (by decide +kernel)
set_option maxRecDepth 20000 in
theorem gX8_winnerOf_X8_roundGoesTo : GoodIn wsX8_winnerOf (wsV RX8 299 RX8 yX8_roundGoesTo wsX8_roundGoesTo) := goodIn_app (goodIn_of _ (by decide +kernel)) ggX8_winnerOf_X8_roundGoesTo
theorem dX8_winnerOf_0 : decode cX8_winnerOf 0 = .ok (.aload_n 1, 1) := by decide +kernel
theorem dX8_winnerOf_1 : decode cX8_winnerOf 1 = .ok (.invokevirtual 205, 3) := by decide +kernel
theorem dX8_winnerOf_4 : decode cX8_winnerOf 4 = .ok (.ifCond .ne 5, 3) := by decide +kernel
theorem dX8_winnerOf_7 : decode cX8_winnerOf 7 = .ok (.iconst (-1), 1) := by decide +kernel
theorem dX8_winnerOf_8 : decode cX8_winnerOf 8 = .ok (.ireturn, 1) := by decide +kernel
theorem dX8_winnerOf_9 : decode cX8_winnerOf 9 = .ok (.iconst 0, 1) := by decide +kernel
theorem dX8_winnerOf_10 : decode cX8_winnerOf 10 = .ok (.istore_n 2, 1) := by decide +kernel
theorem dX8_winnerOf_11 : decode cX8_winnerOf 11 = .ok (.iconst 0, 1) := by decide +kernel
theorem dX8_winnerOf_12 : decode cX8_winnerOf 12 = .ok (.istore_n 3, 1) := by decide +kernel
theorem dX8_winnerOf_13 : decode cX8_winnerOf 13 = .ok (.iload_n 3, 1) := by decide +kernel
theorem dX8_winnerOf_14 : decode cX8_winnerOf 14 = .ok (.iconst 5, 1) := by decide +kernel
theorem dX8_winnerOf_15 : decode cX8_winnerOf 15 = .ok (.if_icmp .ge 18, 3) := by decide +kernel
theorem dX8_winnerOf_18 : decode cX8_winnerOf 18 = .ok (.iload_n 2, 1) := by decide +kernel
theorem dX8_winnerOf_19 : decode cX8_winnerOf 19 = .ok (.aload_n 0, 1) := by decide +kernel
theorem dX8_winnerOf_20 : decode cX8_winnerOf 20 = .ok (.aload_n 1, 1) := by decide +kernel
