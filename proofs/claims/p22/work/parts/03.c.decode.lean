set_option maxRecDepth 20000 in
theorem ggX8_rise_X8_isWithin : GoodIn wsX8_rise wsX8_isWithin := goodIn_r _ [15] (by decide +kernel) (by decide +kernel)
set_option maxRecDepth 20000 in
theorem gX8_rise_X8_isWithin : GoodIn wsX8_rise (va_wsS RX8 86 yX8_isWithin wsX8_isWithin) := goodIn_app (goodIn_of _ (by decide +kernel)) ggX8_rise_X8_isWithin
theorem dX8_rise_0 : decode cX8_rise 0 = .ok (.aload_n 0, 1) := by decide +kernel
theorem dX8_rise_1 : decode cX8_rise 1 = .ok (.iload_n 1, 1) := by decide +kernel
theorem dX8_rise_2 : decode cX8_rise 2 = .ok (.invokevirtual 92, 3) := by decide +kernel
theorem dX8_rise_5 : decode cX8_rise 5 = .ok (.astore_n 3, 1) := by decide +kernel
theorem dX8_rise_6 : decode cX8_rise 6 = .ok (.aload_n 3, 1) := by decide +kernel
theorem dX8_rise_7 : decode cX8_rise 7 = .ok (.ifnonnull 13, 3) := by decide +kernel
theorem dX8_rise_10 : decode cX8_rise 10 = .ok (.new 96, 3) := by decide +kernel
theorem dX8_rise_13 : decode cX8_rise 13 = .ok (.dup, 1) := by decide +kernel
theorem dX8_rise_14 : decode cX8_rise 14 = .ok (.ldc 98, 2) := by decide +kernel
theorem dX8_rise_16 : decode cX8_rise 16 = .ok (.invokespecial 100, 3) := by decide +kernel
theorem dX8_rise_19 : decode cX8_rise 19 = .ok (.athrow, 1) := by decide +kernel
theorem dX8_rise_20 : decode cX8_rise 20 = .ok (.iload_n 2, 1) := by decide +kernel
theorem dX8_rise_21 : decode cX8_rise 21 = .ok (.bipush (-10), 2) := by decide +kernel
theorem dX8_rise_23 : decode cX8_rise 23 = .ok (.bipush 10, 2) := by decide +kernel
theorem dX8_rise_25 : decode cX8_rise 25 = .ok (.invokestatic 86, 3) := by decide +kernel
theorem dX8_rise_28 : decode cX8_rise 28 = .ok (.ifCond .ne 13, 3) := by decide +kernel
theorem dX8_rise_31 : decode cX8_rise 31 = .ok (.new 51, 3) := by decide +kernel
theorem dX8_rise_34 : decode cX8_rise 34 = .ok (.dup, 1) := by decide +kernel
theorem dX8_rise_35 : decode cX8_rise 35 = .ok (.ldc 108, 2) := by decide +kernel
theorem dX8_rise_37 : decode cX8_rise 37 = .ok (.invokespecial 55, 3) := by decide +kernel
theorem dX8_rise_40 : decode cX8_rise 40 = .ok (.athrow, 1) := by decide +kernel
theorem dX8_rise_41 : decode cX8_rise 41 = .ok (.aload_n 3, 1) := by decide +kernel
theorem dX8_rise_42 : decode cX8_rise 42 = .ok (.iload_n 2, 1) := by decide +kernel
theorem dX8_rise_43 : decode cX8_rise 43 = .ok (.putfield 110, 3) := by decide +kernel
theorem dX8_rise_46 : decode cX8_rise 46 = .ok (.aload_n 3, 1) := by decide +kernel
theorem dX8_rise_47 : decode cX8_rise 47 = .ok (.getfield 113, 3) := by decide +kernel
theorem dX8_rise_50 : decode cX8_rise 50 = .ok (.ireturn, 1) := by decide +kernel
set_option maxRecDepth 20000 in
theorem ggX8_style_X8_styleAt : GoodIn wsX8_style wsX8_styleAt := goodIn_r _ [12, 13, 20, 21, 22, 23, 24, 25, 26, 27, 28, 29] (by decide +kernel) (by decide +kernel)
set_option maxRecDepth 20000 in
theorem gX8_style_X8_styleAt : GoodIn wsX8_style (wsV RX8 116 RX8 yX8_styleAt wsX8_styleAt) := goodIn_app (goodIn_of _ (by decide +kernel)) ggX8_style_X8_styleAt
set_option maxRecDepth 20000 in
theorem ggX8_style_X8_isWithin : GoodIn wsX8_style wsX8_isWithin := goodIn_r _ [16] (by decide +kernel) (by decide +kernel)
set_option maxRecDepth 20000 in
theorem gX8_style_X8_isWithin : GoodIn wsX8_style (va_wsS RX8 86 yX8_isWithin wsX8_isWithin) := goodIn_app (goodIn_of _ (by decide +kernel)) ggX8_style_X8_isWithin
theorem dX8_style_0 : decode cX8_style 0 = .ok (.aload_n 0, 1) := by decide +kernel
theorem dX8_style_1 : decode cX8_style 1 = .ok (.iload_n 1, 1) := by decide +kernel
theorem dX8_style_2 : decode cX8_style 2 = .ok (.invokevirtual 116, 3) := by decide +kernel
theorem dX8_style_5 : decode cX8_style 5 = .ok (.astore 5, 2) := by decide +kernel
theorem dX8_style_7 : decode cX8_style 7 = .ok (.aload 5, 2) := by decide +kernel
theorem dX8_style_9 : decode cX8_style 9 = .ok (.ifnonnull 13, 3) := by decide +kernel
theorem dX8_style_12 : decode cX8_style 12 = .ok (.new 96, 3) := by decide +kernel
theorem dX8_style_15 : decode cX8_style 15 = .ok (.dup, 1) := by decide +kernel
theorem dX8_style_16 : decode cX8_style 16 = .ok (.ldc 120, 2) := by decide +kernel
theorem dX8_style_18 : decode cX8_style 18 = .ok (.invokespecial 100, 3) := by decide +kernel
theorem dX8_style_21 : decode cX8_style 21 = .ok (.athrow, 1) := by decide +kernel
theorem dX8_style_22 : decode cX8_style 22 = .ok (.iload_n 2, 1) := by decide +kernel
theorem dX8_style_23 : decode cX8_style 23 = .ok (.iconst 0, 1) := by decide +kernel
theorem dX8_style_24 : decode cX8_style 24 = .ok (.bipush 100, 2) := by decide +kernel
theorem dX8_style_26 : decode cX8_style 26 = .ok (.invokestatic 86, 3) := by decide +kernel
theorem dX8_style_29 : decode cX8_style 29 = .ok (.ifCond .eq 24, 3) := by decide +kernel
theorem dX8_style_32 : decode cX8_style 32 = .ok (.iload_n 3, 1) := by decide +kernel
theorem dX8_style_33 : decode cX8_style 33 = .ok (.iconst 0, 1) := by decide +kernel
theorem dX8_style_34 : decode cX8_style 34 = .ok (.bipush 100, 2) := by decide +kernel
theorem dX8_style_36 : decode cX8_style 36 = .ok (.invokestatic 86, 3) := by decide +kernel
theorem dX8_style_39 : decode cX8_style 39 = .ok (.ifCond .eq 14, 3) := by decide +kernel
theorem dX8_style_42 : decode cX8_style 42 = .ok (.iload 4, 2) := by decide +kernel
theorem dX8_style_44 : decode cX8_style 44 = .ok (.iconst 0, 1) := by decide +kernel
theorem dX8_style_45 : decode cX8_style 45 = .ok (.bipush 100, 2) := by decide +kernel
theorem dX8_style_47 : decode cX8_style 47 = .ok (.invokestatic 86, 3) := by decide +kernel
theorem dX8_style_50 : decode cX8_style 50 = .ok (.ifCond .ne 13, 3) := by decide +kernel
theorem dX8_style_53 : decode cX8_style 53 = .ok (.new 51, 3) := by decide +kernel
theorem dX8_style_56 : decode cX8_style 56 = .ok (.dup, 1) := by decide +kernel
theorem dX8_style_57 : decode cX8_style 57 = .ok (.ldc 122, 2) := by decide +kernel
theorem dX8_style_59 : decode cX8_style 59 = .ok (.invokespecial 55, 3) := by decide +kernel
theorem dX8_style_62 : decode cX8_style 62 = .ok (.athrow, 1) := by decide +kernel
theorem dX8_style_63 : decode cX8_style 63 = .ok (.aload 5, 2) := by decide +kernel
theorem dX8_style_65 : decode cX8_style 65 = .ok (.iload_n 2, 1) := by decide +kernel
theorem dX8_style_66 : decode cX8_style 66 = .ok (.putfield 124, 3) := by decide +kernel
theorem dX8_style_69 : decode cX8_style 69 = .ok (.aload 5, 2) := by decide +kernel
theorem dX8_style_71 : decode cX8_style 71 = .ok (.iload_n 3, 1) := by decide +kernel
theorem dX8_style_72 : decode cX8_style 72 = .ok (.putfield 127, 3) := by decide +kernel
theorem dX8_style_75 : decode cX8_style 75 = .ok (.aload 5, 2) := by decide +kernel
theorem dX8_style_77 : decode cX8_style 77 = .ok (.iload 4, 2) := by decide +kernel
theorem dX8_style_79 : decode cX8_style 79 = .ok (.putfield 130, 3) := by decide +kernel
theorem dX8_style_82 : decode cX8_style 82 = .ok (.return_, 1) := by decide +kernel
set_option maxRecDepth 20000 in
theorem ggX8_learn_X8_judgeAt : GoodIn wsX8_learn wsX8_judgeAt := goodIn_r _ [10, 11, 31, 32, 33, 34, 35, 36, 37, 38, 39, 40] (by decide +kernel) (by decide +kernel)
set_option maxRecDepth 20000 in
theorem gX8_learn_X8_judgeAt : GoodIn wsX8_learn (wsV RX8 133 RX8 yX8_judgeAt wsX8_judgeAt) := goodIn_app (goodIn_of _ (by decide +kernel)) ggX8_learn_X8_judgeAt
set_option maxRecDepth 20000 in
theorem ggX8_learn_X8_styleAt : GoodIn wsX8_learn wsX8_styleAt := goodIn_r _ [15, 16, 31, 32, 33, 34, 35, 36, 37, 38, 39, 40] (by decide +kernel) (by decide +kernel)
set_option maxRecDepth 20000 in
theorem gX8_learn_X8_styleAt : GoodIn wsX8_learn (wsV RX8 116 RX8 yX8_styleAt wsX8_styleAt) := goodIn_app (goodIn_of _ (by decide +kernel)) ggX8_learn_X8_styleAt
set_option maxRecDepth 20000 in
theorem ggX8_learn_X1_knowsOn : GoodIn wsX8_learn wsX1_knowsOn := goodIn_r _ [21, 22, 41] (by decide +kernel) (by decide +kernel)
set_option maxRecDepth 20000 in
theorem gX8_learn_X1_knowsOn : GoodIn wsX8_learn (wsV RX8 142 RX1 yX1_knowsOn wsX1_knowsOn) := goodIn_app (goodIn_of _ (by decide +kernel)) ggX8_learn_X1_knowsOn
set_option maxRecDepth 20000 in
theorem ggX8_learn_X1_takeUp : GoodIn wsX8_learn wsX1_takeUp := goodIn_r _ [26, 22, 41] (by decide +kernel) (by decide +kernel)
set_option maxRecDepth 20000 in
theorem gX8_learn_X1_takeUp : GoodIn wsX8_learn (wsV RX8 147 RX1 yX1_takeUp wsX1_takeUp) := goodIn_app (goodIn_of _ (by decide +kernel)) ggX8_learn_X1_takeUp
set_option maxRecDepth 20000 in
theorem ggX8_learn_X1_countKnown : GoodIn wsX8_learn wsX1_countKnown := goodIn_r _ [30, 22, 41] (by decide +kernel) (by decide +kernel)
set_option maxRecDepth 20000 in
theorem gX8_learn_X1_countKnown : GoodIn wsX8_learn (wsV RX8 151 RX1 yX1_countKnown wsX1_countKnown) := goodIn_app (goodIn_of _ (by decide +kernel)) ggX8_learn_X1_countKnown
theorem dX8_learn_0 : decode cX8_learn 0 = .ok (.aload_n 0, 1) := by decide +kernel
theorem dX8_learn_1 : decode cX8_learn 1 = .ok (.iload_n 1, 1) := by decide +kernel
theorem dX8_learn_2 : decode cX8_learn 2 = .ok (.invokevirtual 133, 3) := by decide +kernel
theorem dX8_learn_5 : decode cX8_learn 5 = .ok (.astore_n 3, 1) := by decide +kernel
theorem dX8_learn_6 : decode cX8_learn 6 = .ok (.aload_n 3, 1) := by decide +kernel
theorem dX8_learn_7 : decode cX8_learn 7 = .ok (.ifnull 11, 3) := by decide +kernel
theorem dX8_learn_10 : decode cX8_learn 10 = .ok (.aload_n 0, 1) := by decide +kernel
theorem dX8_learn_11 : decode cX8_learn 11 = .ok (.iload_n 2, 1) := by decide +kernel
theorem dX8_learn_12 : decode cX8_learn 12 = .ok (.invokevirtual 116, 3) := by decide +kernel
theorem dX8_learn_15 : decode cX8_learn 15 = .ok (.ifnonnull 13, 3) := by decide +kernel
theorem dX8_learn_18 : decode cX8_learn 18 = .ok (.new 96, 3) := by decide +kernel
theorem dX8_learn_21 : decode cX8_learn 21 = .ok (.dup, 1) := by decide +kernel
theorem dX8_learn_22 : decode cX8_learn 22 = .ok (.ldc 137, 2) := by decide +kernel
theorem dX8_learn_24 : decode cX8_learn 24 = .ok (.invokespecial 100, 3) := by decide +kernel
theorem dX8_learn_27 : decode cX8_learn 27 = .ok (.athrow, 1) := by decide +kernel
theorem dX8_learn_28 : decode cX8_learn 28 = .ok (.aload_n 3, 1) := by decide +kernel
theorem dX8_learn_29 : decode cX8_learn 29 = .ok (.iload_n 2, 1) := by decide +kernel
theorem dX8_learn_30 : decode cX8_learn 30 = .ok (.aload_n 0, 1) := by decide +kernel
theorem dX8_learn_31 : decode cX8_learn 31 = .ok (.getfield 139, 3) := by decide +kernel
theorem dX8_learn_34 : decode cX8_learn 34 = .ok (.invokevirtual 142, 3) := by decide +kernel
theorem dX8_learn_37 : decode cX8_learn 37 = .ok (.ifCond .eq 13, 3) := by decide +kernel
theorem dX8_learn_40 : decode cX8_learn 40 = .ok (.new 64, 3) := by decide +kernel
theorem dX8_learn_43 : decode cX8_learn 43 = .ok (.dup, 1) := by decide +kernel
theorem dX8_learn_44 : decode cX8_learn 44 = .ok (.ldc 145, 2) := by decide +kernel
theorem dX8_learn_46 : decode cX8_learn 46 = .ok (.invokespecial 68, 3) := by decide +kernel
theorem dX8_learn_49 : decode cX8_learn 49 = .ok (.athrow, 1) := by decide +kernel
theorem dX8_learn_50 : decode cX8_learn 50 = .ok (.aload_n 3, 1) := by decide +kernel
theorem dX8_learn_51 : decode cX8_learn 51 = .ok (.iload_n 2, 1) := by decide +kernel
theorem dX8_learn_52 : decode cX8_learn 52 = .ok (.aload_n 0, 1) := by decide +kernel
theorem dX8_learn_53 : decode cX8_learn 53 = .ok (.getfield 139, 3) := by decide +kernel
theorem dX8_learn_56 : decode cX8_learn 56 = .ok (.invokevirtual 147, 3) := by decide +kernel
theorem dX8_learn_59 : decode cX8_learn 59 = .ok (.aload_n 3, 1) := by decide +kernel
theorem dX8_learn_60 : decode cX8_learn 60 = .ok (.invokevirtual 151, 3) := by decide +kernel
theorem dX8_learn_63 : decode cX8_learn 63 = .ok (.ireturn, 1) := by decide +kernel
set_option maxRecDepth 20000 in
theorem ggX8_pass_X8_isWithin : GoodIn wsX8_pass wsX8_isWithin := goodIn_r _ [10] (by decide +kernel) (by decide +kernel)
set_option maxRecDepth 20000 in
theorem gX8_pass_X8_isWithin : GoodIn wsX8_pass (va_wsS RX8 86 yX8_isWithin wsX8_isWithin) := goodIn_app (goodIn_of _ (by decide +kernel)) ggX8_pass_X8_isWithin
set_option maxRecDepth 20000 in
theorem ggX8_pass_X2_age : GoodIn wsX8_pass wsX2_age := goodIn_r _ [15, 16, 17, 18, 19, 20, 21, 22, 23, 24, 35, 36, 37] (by decide +kernel) (by decide +kernel)
set_option maxRecDepth 20000 in
theorem gX8_pass_X2_age : GoodIn wsX8_pass (wsV RX8 159 RX2 yX2_age wsX2_age) := goodIn_app (goodIn_of _ (by decide +kernel)) ggX8_pass_X2_age
theorem dX8_pass_0 : decode cX8_pass 0 = .ok (.iload_n 1, 1) := by decide +kernel
theorem dX8_pass_1 : decode cX8_pass 1 = .ok (.iconst 1, 1) := by decide +kernel
theorem dX8_pass_2 : decode cX8_pass 2 = .ok (.bipush 100, 2) := by decide +kernel
theorem dX8_pass_4 : decode cX8_pass 4 = .ok (.invokestatic 86, 3) := by decide +kernel
theorem dX8_pass_7 : decode cX8_pass 7 = .ok (.ifCond .ne 13, 3) := by decide +kernel
theorem dX8_pass_10 : decode cX8_pass 10 = .ok (.new 51, 3) := by decide +kernel
theorem dX8_pass_13 : decode cX8_pass 13 = .ok (.dup, 1) := by decide +kernel
theorem dX8_pass_14 : decode cX8_pass 14 = .ok (.ldc 155, 2) := by decide +kernel
theorem dX8_pass_16 : decode cX8_pass 16 = .ok (.invokespecial 55, 3) := by decide +kernel
theorem dX8_pass_19 : decode cX8_pass 19 = .ok (.athrow, 1) := by decide +kernel
theorem dX8_pass_20 : decode cX8_pass 20 = .ok (.aload_n 0, 1) := by decide +kernel
theorem dX8_pass_21 : decode cX8_pass 21 = .ok (.getfield 139, 3) := by decide +kernel
theorem dX8_pass_24 : decode cX8_pass 24 = .ok (.iload_n 1, 1) := by decide +kernel
theorem dX8_pass_25 : decode cX8_pass 25 = .ok (.iadd, 1) := by decide +kernel
theorem dX8_pass_26 : decode cX8_pass 26 = .ok (.sipush 5000, 3) := by decide +kernel
theorem dX8_pass_29 : decode cX8_pass 29 = .ok (.if_icmp .le 13, 3) := by decide +kernel
theorem dX8_pass_32 : decode cX8_pass 32 = .ok (.new 64, 3) := by decide +kernel
theorem dX8_pass_35 : decode cX8_pass 35 = .ok (.dup, 1) := by decide +kernel
theorem dX8_pass_36 : decode cX8_pass 36 = .ok (.ldc 157, 2) := by decide +kernel
theorem dX8_pass_38 : decode cX8_pass 38 = .ok (.invokespecial 68, 3) := by decide +kernel
theorem dX8_pass_41 : decode cX8_pass 41 = .ok (.athrow, 1) := by decide +kernel
theorem dX8_pass_42 : decode cX8_pass 42 = .ok (.aload_n 0, 1) := by decide +kernel
theorem dX8_pass_43 : decode cX8_pass 43 = .ok (.dup, 1) := by decide +kernel
theorem dX8_pass_44 : decode cX8_pass 44 = .ok (.getfield 139, 3) := by decide +kernel
theorem dX8_pass_47 : decode cX8_pass 47 = .ok (.iload_n 1, 1) := by decide +kernel
theorem dX8_pass_48 : decode cX8_pass 48 = .ok (.iadd, 1) := by decide +kernel
theorem dX8_pass_49 : decode cX8_pass 49 = .ok (.putfield 139, 3) := by decide +kernel
theorem dX8_pass_52 : decode cX8_pass 52 = .ok (.iconst 0, 1) := by decide +kernel
theorem dX8_pass_53 : decode cX8_pass 53 = .ok (.istore_n 2, 1) := by decide +kernel
theorem dX8_pass_54 : decode cX8_pass 54 = .ok (.iload_n 2, 1) := by decide +kernel
theorem dX8_pass_55 : decode cX8_pass 55 = .ok (.aload_n 0, 1) := by decide +kernel
theorem dX8_pass_56 : decode cX8_pass 56 = .ok (.getfield 17, 3) := by decide +kernel
theorem dX8_pass_59 : decode cX8_pass 59 = .ok (.arraylength, 1) := by decide +kernel
theorem dX8_pass_60 : decode cX8_pass 60 = .ok (.if_icmp .ge 28, 3) := by decide +kernel
theorem dX8_pass_63 : decode cX8_pass 63 = .ok (.aload_n 0, 1) := by decide +kernel
theorem dX8_pass_64 : decode cX8_pass 64 = .ok (.getfield 17, 3) := by decide +kernel
theorem dX8_pass_67 : decode cX8_pass 67 = .ok (.iload_n 2, 1) := by decide +kernel
theorem dX8_pass_68 : decode cX8_pass 68 = .ok (.aaload, 1) := by decide +kernel
theorem dX8_pass_69 : decode cX8_pass 69 = .ok (.ifnull 13, 3) := by decide +kernel
theorem dX8_pass_72 : decode cX8_pass 72 = .ok (.aload_n 0, 1) := by decide +kernel
theorem dX8_pass_73 : decode cX8_pass 73 = .ok (.getfield 17, 3) := by decide +kernel
theorem dX8_pass_76 : decode cX8_pass 76 = .ok (.iload_n 2, 1) := by decide +kernel
theorem dX8_pass_77 : decode cX8_pass 77 = .ok (.aaload, 1) := by decide +kernel
theorem dX8_pass_78 : decode cX8_pass 78 = .ok (.iload_n 1, 1) := by decide +kernel
theorem dX8_pass_79 : decode cX8_pass 79 = .ok (.invokevirtual 159, 3) := by decide +kernel
theorem dX8_pass_82 : decode cX8_pass 82 = .ok (.iinc 2 1, 3) := by decide +kernel
theorem dX8_pass_85 : decode cX8_pass 85 = .ok (.goto (-31), 3) := by decide +kernel
theorem dX8_pass_88 : decode cX8_pass 88 = .ok (.aload_n 0, 1) := by decide +kernel
theorem dX8_pass_89 : decode cX8_pass 89 = .ok (.getfield 139, 3) := by decide +kernel
theorem dX8_pass_92 : decode cX8_pass 92 = .ok (.ireturn, 1) := by decide +kernel
set_option maxRecDepth 20000 in
theorem ggX8_duel_X8_isWriter : GoodIn wsX8_duel wsX8_isWriter := goodIn_r _ [17, 18, 19, 16, 20] (by decide +kernel) (by decide +kernel)
set_option maxRecDepth 20000 in
theorem gX8_duel_X8_isWriter : GoodIn wsX8_duel (va_wsS RX8 163 yX8_isWriter wsX8_isWriter) := goodIn_app (goodIn_of _ (by decide +kernel)) ggX8_duel_X8_isWriter
set_option maxRecDepth 20000 in
theorem ggX8_duel_X8_judgeAt : GoodIn wsX8_duel wsX8_judgeAt := goodIn_r _ [24, 25, 52, 53, 54, 55, 56, 57, 58, 59, 60, 61] (by decide +kernel) (by decide +kernel)
set_option maxRecDepth 20000 in
theorem gX8_duel_X8_judgeAt : GoodIn wsX8_duel (wsV RX8 133 RX8 yX8_judgeAt wsX8_judgeAt) := goodIn_app (goodIn_of _ (by decide +kernel)) ggX8_duel_X8_judgeAt
set_option maxRecDepth 20000 in
theorem ggX8_duel_X8_paperAt : GoodIn wsX8_duel wsX8_paperAt := goodIn_r _ [29, 30, 52, 53, 54, 55, 56, 57, 58, 59, 60, 61] (by decide +kernel) (by decide +kernel)
set_option maxRecDepth 20000 in
theorem gX8_duel_X8_paperAt : GoodIn wsX8_duel (wsV RX8 92 RX8 yX8_paperAt wsX8_paperAt) := goodIn_app (goodIn_of _ (by decide +kernel)) ggX8_duel_X8_paperAt
set_option maxRecDepth 20000 in
theorem ggX8_duel_X8_isWithin : GoodIn wsX8_duel wsX8_isWithin := goodIn_r _ [20] (by decide +kernel) (by decide +kernel)
set_option maxRecDepth 20000 in
theorem gX8_duel_X8_isWithin : GoodIn wsX8_duel (va_wsS RX8 86 yX8_isWithin wsX8_isWithin) := goodIn_app (goodIn_of _ (by decide +kernel)) ggX8_duel_X8_isWithin
set_option maxRecDepth 20000 in
theorem ggX8_duel_X0_init : GoodIn wsX8_duel wsX0_init := goodIn_r _ [33, 34, 35, 36, 37, 38, 39, 40, 41, 42, 43, 44, 45, 46, 47, 62, 63, 64, 65, 66, 67, 68, 69, 70, 71] (by decide +kernel) (by decide +kernel)
set_option maxRecDepth 20000 in
theorem gX8_duel_X0_init : GoodIn wsX8_duel (wsX0_init) := ggX8_duel_X0_init
set_option maxRecDepth 20000 in
theorem ggX8_duel_X0_drawPrompts : GoodIn wsX8_duel wsX0_drawPrompts := goodIn_r _ [51, 38, 46, 62, 63, 64, 65, 66, 67, 68, 69, 70, 71] (by decide +kernel) (by decide +kernel)
set_option maxRecDepth 20000 in
theorem gX8_duel_X0_drawPrompts : GoodIn wsX8_duel (wsV RX8 183 RX0 yX0_drawPrompts wsX0_drawPrompts) := goodIn_app (goodIn_of _ (by decide +kernel)) ggX8_duel_X0_drawPrompts
theorem dX8_duel_0 : decode cX8_duel 0 = .ok (.iload_n 1, 1) := by decide +kernel
theorem dX8_duel_1 : decode cX8_duel 1 = .ok (.invokestatic 163, 3) := by decide +kernel
theorem dX8_duel_4 : decode cX8_duel 4 = .ok (.ifCond .eq 10, 3) := by decide +kernel
theorem dX8_duel_7 : decode cX8_duel 7 = .ok (.iload_n 2, 1) := by decide +kernel
theorem dX8_duel_8 : decode cX8_duel 8 = .ok (.invokestatic 163, 3) := by decide +kernel
theorem dX8_duel_11 : decode cX8_duel 11 = .ok (.ifCond .ne 13, 3) := by decide +kernel
theorem dX8_duel_14 : decode cX8_duel 14 = .ok (.new 96, 3) := by decide +kernel
theorem dX8_duel_17 : decode cX8_duel 17 = .ok (.dup, 1) := by decide +kernel
theorem dX8_duel_18 : decode cX8_duel 18 = .ok (.ldc 167, 2) := by decide +kernel
theorem dX8_duel_20 : decode cX8_duel 20 = .ok (.invokespecial 100, 3) := by decide +kernel
theorem dX8_duel_23 : decode cX8_duel 23 = .ok (.athrow, 1) := by decide +kernel
theorem dX8_duel_24 : decode cX8_duel 24 = .ok (.aload_n 0, 1) := by decide +kernel
theorem dX8_duel_25 : decode cX8_duel 25 = .ok (.iload_n 3, 1) := by decide +kernel
theorem dX8_duel_26 : decode cX8_duel 26 = .ok (.invokevirtual 133, 3) := by decide +kernel
theorem dX8_duel_29 : decode cX8_duel 29 = .ok (.ifnull 12, 3) := by decide +kernel
theorem dX8_duel_32 : decode cX8_duel 32 = .ok (.aload_n 0, 1) := by decide +kernel
theorem dX8_duel_33 : decode cX8_duel 33 = .ok (.iload 4, 2) := by decide +kernel
theorem dX8_duel_35 : decode cX8_duel 35 = .ok (.invokevirtual 92, 3) := by decide +kernel
theorem dX8_duel_38 : decode cX8_duel 38 = .ok (.ifnonnull 13, 3) := by decide +kernel
theorem dX8_duel_41 : decode cX8_duel 41 = .ok (.new 96, 3) := by decide +kernel
theorem dX8_duel_44 : decode cX8_duel 44 = .ok (.dup, 1) := by decide +kernel
theorem dX8_duel_45 : decode cX8_duel 45 = .ok (.ldc 169, 2) := by decide +kernel
theorem dX8_duel_47 : decode cX8_duel 47 = .ok (.invokespecial 100, 3) := by decide +kernel
theorem dX8_duel_50 : decode cX8_duel 50 = .ok (.athrow, 1) := by decide +kernel
theorem dX8_duel_51 : decode cX8_duel 51 = .ok (.iload_n 1, 1) := by decide +kernel
theorem dX8_duel_52 : decode cX8_duel 52 = .ok (.iload_n 2, 1) := by decide +kernel
theorem dX8_duel_53 : decode cX8_duel 53 = .ok (.if_icmp .ne 13, 3) := by decide +kernel
theorem dX8_duel_56 : decode cX8_duel 56 = .ok (.new 51, 3) := by decide +kernel
theorem dX8_duel_59 : decode cX8_duel 59 = .ok (.dup, 1) := by decide +kernel
theorem dX8_duel_60 : decode cX8_duel 60 = .ok (.ldc 171, 2) := by decide +kernel
theorem dX8_duel_62 : decode cX8_duel 62 = .ok (.invokespecial 55, 3) := by decide +kernel
theorem dX8_duel_65 : decode cX8_duel 65 = .ok (.athrow, 1) := by decide +kernel
theorem dX8_duel_66 : decode cX8_duel 66 = .ok (.iload 5, 2) := by decide +kernel
theorem dX8_duel_68 : decode cX8_duel 68 = .ok (.iconst 1, 1) := by decide +kernel
theorem dX8_duel_69 : decode cX8_duel 69 = .ok (.iconst 5, 1) := by decide +kernel
theorem dX8_duel_70 : decode cX8_duel 70 = .ok (.invokestatic 86, 3) := by decide +kernel
theorem dX8_duel_73 : decode cX8_duel 73 = .ok (.ifCond .eq 15, 3) := by decide +kernel
theorem dX8_duel_76 : decode cX8_duel 76 = .ok (.iload 6, 2) := by decide +kernel
theorem dX8_duel_78 : decode cX8_duel 78 = .ok (.iconst 0, 1) := by decide +kernel
theorem dX8_duel_79 : decode cX8_duel 79 = .ok (.sipush 999, 3) := by decide +kernel
theorem dX8_duel_82 : decode cX8_duel 82 = .ok (.invokestatic 86, 3) := by decide +kernel
theorem dX8_duel_85 : decode cX8_duel 85 = .ok (.ifCond .ne 13, 3) := by decide +kernel
theorem dX8_duel_88 : decode cX8_duel 88 = .ok (.new 51, 3) := by decide +kernel
theorem dX8_duel_91 : decode cX8_duel 91 = .ok (.dup, 1) := by decide +kernel
theorem dX8_duel_92 : decode cX8_duel 92 = .ok (.ldc 173, 2) := by decide +kernel
theorem dX8_duel_94 : decode cX8_duel 94 = .ok (.invokespecial 55, 3) := by decide +kernel
theorem dX8_duel_97 : decode cX8_duel 97 = .ok (.athrow, 1) := by decide +kernel
theorem dX8_duel_98 : decode cX8_duel 98 = .ok (.aload_n 0, 1) := by decide +kernel
theorem dX8_duel_99 : decode cX8_duel 99 = .ok (.getfield 83, 3) := by decide +kernel
theorem dX8_duel_102 : decode cX8_duel 102 = .ok (.ifCond .eq 21, 3) := by decide +kernel
theorem dX8_duel_105 : decode cX8_duel 105 = .ok (.aload_n 0, 1) := by decide +kernel
theorem dX8_duel_106 : decode cX8_duel 106 = .ok (.getfield 175, 3) := by decide +kernel
theorem dX8_duel_109 : decode cX8_duel 109 = .ok (.iconst 0, 1) := by decide +kernel
theorem dX8_duel_110 : decode cX8_duel 110 = .ok (.aload_n 0, 1) := by decide +kernel
theorem dX8_duel_111 : decode cX8_duel 111 = .ok (.getfield 35, 3) := by decide +kernel
theorem dX8_duel_114 : decode cX8_duel 114 = .ok (.arraylength, 1) := by decide +kernel
theorem dX8_duel_115 : decode cX8_duel 115 = .ok (.iconst 1, 1) := by decide +kernel
theorem dX8_duel_116 : decode cX8_duel 116 = .ok (.isub, 1) := by decide +kernel
theorem dX8_duel_117 : decode cX8_duel 117 = .ok (.invokestatic 86, 3) := by decide +kernel
theorem dX8_duel_120 : decode cX8_duel 120 = .ok (.ifCond .ne 13, 3) := by decide +kernel
theorem dX8_duel_123 : decode cX8_duel 123 = .ok (.new 64, 3) := by decide +kernel
theorem dX8_duel_126 : decode cX8_duel 126 = .ok (.dup, 1) := by decide +kernel
theorem dX8_duel_127 : decode cX8_duel 127 = .ok (.ldc 178, 2) := by decide +kernel
theorem dX8_duel_129 : decode cX8_duel 129 = .ok (.invokespecial 68, 3) := by decide +kernel
theorem dX8_duel_132 : decode cX8_duel 132 = .ok (.athrow, 1) := by decide +kernel
theorem dX8_duel_133 : decode cX8_duel 133 = .ok (.aload_n 0, 1) := by decide +kernel
theorem dX8_duel_134 : decode cX8_duel 134 = .ok (.getfield 175, 3) := by decide +kernel
theorem dX8_duel_137 : decode cX8_duel 137 = .ok (.istore 7, 2) := by decide +kernel
theorem dX8_duel_139 : decode cX8_duel 139 = .ok (.new 33, 3) := by decide +kernel
theorem dX8_duel_142 : decode cX8_duel 142 = .ok (.dup, 1) := by decide +kernel
theorem dX8_duel_143 : decode cX8_duel 143 = .ok (.iload_n 1, 1) := by decide +kernel
theorem dX8_duel_144 : decode cX8_duel 144 = .ok (.iload_n 2, 1) := by decide +kernel
theorem dX8_duel_145 : decode cX8_duel 145 = .ok (.iload_n 3, 1) := by decide +kernel
theorem dX8_duel_146 : decode cX8_duel 146 = .ok (.iload 4, 2) := by decide +kernel
theorem dX8_duel_148 : decode cX8_duel 148 = .ok (.iload 5, 2) := by decide +kernel
theorem dX8_duel_150 : decode cX8_duel 150 = .ok (.aload_n 0, 1) := by decide +kernel
theorem dX8_duel_151 : decode cX8_duel 151 = .ok (.getfield 139, 3) := by decide +kernel
theorem dX8_duel_154 : decode cX8_duel 154 = .ok (.invokespecial 180, 3) := by decide +kernel
theorem dX8_duel_157 : decode cX8_duel 157 = .ok (.astore 8, 2) := by decide +kernel
theorem dX8_duel_159 : decode cX8_duel 159 = .ok (.aload 8, 2) := by decide +kernel
theorem dX8_duel_161 : decode cX8_duel 161 = .ok (.iload 6, 2) := by decide +kernel
theorem dX8_duel_163 : decode cX8_duel 163 = .ok (.aload_n 0, 1) := by decide +kernel
theorem dX8_duel_164 : decode cX8_duel 164 = .ok (.getfield 83, 3) := by decide +kernel
theorem dX8_duel_167 : decode cX8_duel 167 = .ok (.invokevirtual 183, 3) := by decide +kernel
theorem dX8_duel_170 : decode cX8_duel 170 = .ok (.aload_n 0, 1) := by decide +kernel
theorem dX8_duel_171 : decode cX8_duel 171 = .ok (.getfield 35, 3) := by decide +kernel
theorem dX8_duel_174 : decode cX8_duel 174 = .ok (.iload 7, 2) := by decide +kernel
theorem dX8_duel_176 : decode cX8_duel 176 = .ok (.aload 8, 2) := by decide +kernel
theorem dX8_duel_178 : decode cX8_duel 178 = .ok (.aastore, 1) := by decide +kernel
theorem dX8_duel_179 : decode cX8_duel 179 = .ok (.aload_n 0, 1) := by decide +kernel
theorem dX8_duel_180 : decode cX8_duel 180 = .ok (.dup, 1) := by decide +kernel
theorem dX8_duel_181 : decode cX8_duel 181 = .ok (.getfield 175, 3) := by decide +kernel
theorem dX8_duel_184 : decode cX8_duel 184 = .ok (.iconst 1, 1) := by decide +kernel
theorem dX8_duel_185 : decode cX8_duel 185 = .ok (.iadd, 1) := by decide +kernel
theorem dX8_duel_186 : decode cX8_duel 186 = .ok (.putfield 175, 3) := by decide +kernel
theorem dX8_duel_189 : decode cX8_duel 189 = .ok (.iload 7, 2) := by decide +kernel
theorem dX8_duel_191 : decode cX8_duel 191 = .ok (.ireturn, 1) := by decide +kernel
set_option maxRecDepth 20000 in
theorem ggX8_hand_X8_duelAt : GoodIn wsX8_hand wsX8_duelAt := goodIn_r _ [21, 22, 132, 133, 134, 135, 136, 137, 138, 139, 140, 141] (by decide +kernel) (by decide +kernel)
set_option maxRecDepth 20000 in
theorem gX8_hand_X8_duelAt : GoodIn wsX8_hand (wsV RX8 186 RX8 yX8_duelAt wsX8_duelAt) := goodIn_app (goodIn_of _ (by decide +kernel)) ggX8_hand_X8_duelAt
set_option maxRecDepth 20000 in
theorem ggX8_hand_X8_isWithin : GoodIn wsX8_hand wsX8_isWithin := goodIn_r _ [25] (by decide +kernel) (by decide +kernel)
set_option maxRecDepth 20000 in
theorem gX8_hand_X8_isWithin : GoodIn wsX8_hand (va_wsS RX8 86 yX8_isWithin wsX8_isWithin) := goodIn_app (goodIn_of _ (by decide +kernel)) ggX8_hand_X8_isWithin
set_option maxRecDepth 20000 in
theorem ggX8_hand_X0_promptAt : GoodIn wsX8_hand wsX0_promptAt := goodIn_r _ [30, 31, 122, 123, 124, 125, 126, 127, 128, 129, 130, 131] (by decide +kernel) (by decide +kernel)
set_option maxRecDepth 20000 in
theorem gX8_hand_X0_promptAt : GoodIn wsX8_hand (wsV RX8 197 RX0 yX0_promptAt wsX0_promptAt) := goodIn_app (goodIn_of _ (by decide +kernel)) ggX8_hand_X0_promptAt
set_option maxRecDepth 20000 in
theorem ggX8_hand_X8_signAt : GoodIn wsX8_hand wsX8_signAt := goodIn_r _ [35, 36, 132, 133, 134, 135, 136, 137, 138, 139, 140, 141] (by decide +kernel) (by decide +kernel)
set_option maxRecDepth 20000 in
theorem gX8_hand_X8_signAt : GoodIn wsX8_hand (wsV RX8 201 RX8 yX8_signAt wsX8_signAt) := goodIn_app (goodIn_of _ (by decide +kernel)) ggX8_hand_X8_signAt
set_option maxRecDepth 20000 in
theorem ggX8_hand_X0_isOver : GoodIn wsX8_hand wsX0_isOver := goodIn_r _ [40, 41, 42, 122, 123, 124, 125, 126, 127, 128, 129, 130, 131] (by decide +kernel) (by decide +kernel)
set_option maxRecDepth 20000 in
theorem gX8_hand_X0_isOver : GoodIn wsX8_hand (wsV RX8 205 RX0 yX0_isOver wsX0_isOver) := goodIn_app (goodIn_of _ (by decide +kernel)) ggX8_hand_X0_isOver
set_option maxRecDepth 20000 in
theorem ggX8_hand_X8_paperAt : GoodIn wsX8_hand wsX8_paperAt := goodIn_r _ [46, 47, 132, 133, 134, 135, 136, 137, 138, 139, 140, 141] (by decide +kernel) (by decide +kernel)
set_option maxRecDepth 20000 in
theorem gX8_hand_X8_paperAt : GoodIn wsX8_hand (wsV RX8 92 RX8 yX8_paperAt wsX8_paperAt) := goodIn_app (goodIn_of _ (by decide +kernel)) ggX8_hand_X8_paperAt
set_option maxRecDepth 20000 in
theorem ggX8_hand_X0_nextWriter : GoodIn wsX8_hand wsX0_nextWriter := goodIn_r _ [51, 41, 52, 53, 122, 123, 124, 125, 126, 127, 128, 129, 130, 131] (by decide +kernel) (by decide +kernel)
set_option maxRecDepth 20000 in
theorem gX8_hand_X0_nextWriter : GoodIn wsX8_hand (wsV RX8 219 RX0 yX0_nextWriter wsX0_nextWriter) := goodIn_app (goodIn_of _ (by decide +kernel)) ggX8_hand_X0_nextWriter
set_option maxRecDepth 20000 in
theorem ggX8_hand_X8_rightSeal : GoodIn wsX8_hand wsX8_rightSeal := goodIn_r _ [56] (by decide +kernel) (by decide +kernel)
set_option maxRecDepth 20000 in
theorem gX8_hand_X8_rightSeal : GoodIn wsX8_hand (va_wsS RX8 222 yX8_rightSeal wsX8_rightSeal) := goodIn_app (goodIn_of _ (by decide +kernel)) ggX8_hand_X8_rightSeal
set_option maxRecDepth 20000 in
theorem ggX8_hand_X7_init : GoodIn wsX8_hand wsX7_init := goodIn_r _ [59, 60, 61, 62, 63, 64, 65, 66, 67, 68, 69, 70, 71, 72, 73, 74, 75, 76, 77, 78, 79, 80, 81, 82, 83, 84, 85, 86, 87, 88, 89, 90, 91, 92, 93, 94, 95, 96, 97, 98, 99, 100, 101, 102, 103, 104, 105, 106, 107, 108, 109, 110, 111, 112, 147, 148, 149, 150, 142, 143, 151, 152, 153, 154, 155, 156, 157] (by decide +kernel) (by decide +kernel)
set_option maxRecDepth 20000 in
theorem gX8_hand_X7_init : GoodIn wsX8_hand (wsX7_init) := ggX8_hand_X7_init
set_option maxRecDepth 20000 in
theorem ggX8_hand_X0_add : GoodIn wsX8_hand wsX0_add := goodIn_r _ [116, 41, 117, 122, 123, 124, 125, 126, 127, 128, 129, 130, 131] (by decide +kernel) (by decide +kernel)
set_option maxRecDepth 20000 in
theorem gX8_hand_X0_add : GoodIn wsX8_hand (wsV RX8 231 RX0 yX0_add wsX0_add) := goodIn_app (goodIn_of _ (by decide +kernel)) ggX8_hand_X0_add
set_option maxRecDepth 20000 in
theorem ggX8_hand_X5_empty : GoodIn wsX8_hand wsX5_empty := goodIn_r _ [121, 81, 142, 143] (by decide +kernel) (by decide +kernel)
set_option maxRecDepth 20000 in
theorem gX8_hand_X5_empty : GoodIn wsX8_hand (wsV RX8 78 RX5 yX5_empty wsX5_empty) := goodIn_app (goodIn_of _ (by decide +kernel)) ggX8_hand_X5_empty
theorem dX8_hand_0 : decode cX8_hand 0 = .ok (.aload_n 0, 1) := by decide +kernel
theorem dX8_hand_1 : decode cX8_hand 1 = .ok (.iload_n 1, 1) := by decide +kernel
theorem dX8_hand_2 : decode cX8_hand 2 = .ok (.invokevirtual 186, 3) := by decide +kernel
theorem dX8_hand_5 : decode cX8_hand 5 = .ok (.astore_n 3, 1) := by decide +kernel
theorem dX8_hand_6 : decode cX8_hand 6 = .ok (.aload_n 3, 1) := by decide +kernel
theorem dX8_hand_7 : decode cX8_hand 7 = .ok (.ifnonnull 13, 3) := by decide +kernel
theorem dX8_hand_10 : decode cX8_hand 10 = .ok (.new 96, 3) := by decide +kernel
theorem dX8_hand_13 : decode cX8_hand 13 = .ok (.dup, 1) := by decide +kernel
theorem dX8_hand_14 : decode cX8_hand 14 = .ok (.ldc 190, 2) := by decide +kernel
theorem dX8_hand_16 : decode cX8_hand 16 = .ok (.invokespecial 100, 3) := by decide +kernel
theorem dX8_hand_19 : decode cX8_hand 19 = .ok (.athrow, 1) := by decide +kernel
theorem dX8_hand_20 : decode cX8_hand 20 = .ok (.iload_n 2, 1) := by decide +kernel
theorem dX8_hand_21 : decode cX8_hand 21 = .ok (.iconst 0, 1) := by decide +kernel
theorem dX8_hand_22 : decode cX8_hand 22 = .ok (.sipush 999, 3) := by decide +kernel
theorem dX8_hand_25 : decode cX8_hand 25 = .ok (.invokestatic 86, 3) := by decide +kernel
theorem dX8_hand_28 : decode cX8_hand 28 = .ok (.ifCond .ne 13, 3) := by decide +kernel
theorem dX8_hand_31 : decode cX8_hand 31 = .ok (.new 51, 3) := by decide +kernel
theorem dX8_hand_34 : decode cX8_hand 34 = .ok (.dup, 1) := by decide +kernel
theorem dX8_hand_35 : decode cX8_hand 35 = .ok (.ldc 192, 2) := by decide +kernel
theorem dX8_hand_37 : decode cX8_hand 37 = .ok (.invokespecial 55, 3) := by decide +kernel
theorem dX8_hand_40 : decode cX8_hand 40 = .ok (.athrow, 1) := by decide +kernel
theorem dX8_hand_41 : decode cX8_hand 41 = .ok (.aload_n 0, 1) := by decide +kernel
theorem dX8_hand_42 : decode cX8_hand 42 = .ok (.aload_n 3, 1) := by decide +kernel
theorem dX8_hand_43 : decode cX8_hand 43 = .ok (.aload_n 3, 1) := by decide +kernel
theorem dX8_hand_44 : decode cX8_hand 44 = .ok (.getfield 194, 3) := by decide +kernel
theorem dX8_hand_47 : decode cX8_hand 47 = .ok (.iconst 2, 1) := by decide +kernel
theorem dX8_hand_48 : decode cX8_hand 48 = .ok (.idiv, 1) := by decide +kernel
theorem dX8_hand_49 : decode cX8_hand 49 = .ok (.invokevirtual 197, 3) := by decide +kernel
theorem dX8_hand_52 : decode cX8_hand 52 = .ok (.invokevirtual 201, 3) := by decide +kernel
theorem dX8_hand_55 : decode cX8_hand 55 = .ok (.astore 4, 2) := by decide +kernel
theorem dX8_hand_57 : decode cX8_hand 57 = .ok (.aload_n 3, 1) := by decide +kernel
theorem dX8_hand_58 : decode cX8_hand 58 = .ok (.invokevirtual 205, 3) := by decide +kernel
theorem dX8_hand_61 : decode cX8_hand 61 = .ok (.ifCond .ne 8, 3) := by decide +kernel
theorem dX8_hand_64 : decode cX8_hand 64 = .ok (.aload 4, 2) := by decide +kernel
theorem dX8_hand_66 : decode cX8_hand 66 = .ok (.ifnonnull 13, 3) := by decide +kernel
theorem dX8_hand_69 : decode cX8_hand 69 = .ok (.new 64, 3) := by decide +kernel
theorem dX8_hand_72 : decode cX8_hand 72 = .ok (.dup, 1) := by decide +kernel
theorem dX8_hand_73 : decode cX8_hand 73 = .ok (.ldc 209, 2) := by decide +kernel
theorem dX8_hand_75 : decode cX8_hand 75 = .ok (.invokespecial 68, 3) := by decide +kernel
theorem dX8_hand_78 : decode cX8_hand 78 = .ok (.athrow, 1) := by decide +kernel
theorem dX8_hand_79 : decode cX8_hand 79 = .ok (.aload_n 0, 1) := by decide +kernel
theorem dX8_hand_80 : decode cX8_hand 80 = .ok (.aload_n 3, 1) := by decide +kernel
theorem dX8_hand_81 : decode cX8_hand 81 = .ok (.getfield 211, 3) := by decide +kernel
theorem dX8_hand_84 : decode cX8_hand 84 = .ok (.invokevirtual 92, 3) := by decide +kernel
theorem dX8_hand_87 : decode cX8_hand 87 = .ok (.astore 5, 2) := by decide +kernel
theorem dX8_hand_89 : decode cX8_hand 89 = .ok (.aload_n 0, 1) := by decide +kernel
theorem dX8_hand_90 : decode cX8_hand 90 = .ok (.getfield 40, 3) := by decide +kernel
theorem dX8_hand_93 : decode cX8_hand 93 = .ok (.getfield 60, 3) := by decide +kernel
theorem dX8_hand_96 : decode cX8_hand 96 = .ok (.ifCond .eq 16, 3) := by decide +kernel
theorem dX8_hand_99 : decode cX8_hand 99 = .ok (.aload 5, 2) := by decide +kernel
theorem dX8_hand_101 : decode cX8_hand 101 = .ok (.ifnull 11, 3) := by decide +kernel
theorem dX8_hand_104 : decode cX8_hand 104 = .ok (.aload 5, 2) := by decide +kernel
theorem dX8_hand_106 : decode cX8_hand 106 = .ok (.getfield 103, 3) := by decide +kernel
theorem dX8_hand_109 : decode cX8_hand 109 = .ok (.ifCond .gt 13, 3) := by decide +kernel
theorem dX8_hand_112 : decode cX8_hand 112 = .ok (.new 64, 3) := by decide +kernel
theorem dX8_hand_115 : decode cX8_hand 115 = .ok (.dup, 1) := by decide +kernel
theorem dX8_hand_116 : decode cX8_hand 116 = .ok (.ldc 214, 2) := by decide +kernel
theorem dX8_hand_118 : decode cX8_hand 118 = .ok (.invokespecial 68, 3) := by decide +kernel
theorem dX8_hand_121 : decode cX8_hand 121 = .ok (.athrow, 1) := by decide +kernel
theorem dX8_hand_122 : decode cX8_hand 122 = .ok (.aload 5, 2) := by decide +kernel
theorem dX8_hand_124 : decode cX8_hand 124 = .ok (.dup, 1) := by decide +kernel
theorem dX8_hand_125 : decode cX8_hand 125 = .ok (.getfield 103, 3) := by decide +kernel
theorem dX8_hand_128 : decode cX8_hand 128 = .ok (.iconst 1, 1) := by decide +kernel
theorem dX8_hand_129 : decode cX8_hand 129 = .ok (.isub, 1) := by decide +kernel
theorem dX8_hand_130 : decode cX8_hand 130 = .ok (.putfield 103, 3) := by decide +kernel
theorem dX8_hand_133 : decode cX8_hand 133 = .ok (.aload_n 0, 1) := by decide +kernel
theorem dX8_hand_134 : decode cX8_hand 134 = .ok (.dup, 1) := by decide +kernel
theorem dX8_hand_135 : decode cX8_hand 135 = .ok (.getfield 216, 3) := by decide +kernel
theorem dX8_hand_138 : decode cX8_hand 138 = .ok (.iconst 1, 1) := by decide +kernel
theorem dX8_hand_139 : decode cX8_hand 139 = .ok (.iadd, 1) := by decide +kernel
theorem dX8_hand_140 : decode cX8_hand 140 = .ok (.putfield 216, 3) := by decide +kernel
theorem dX8_hand_143 : decode cX8_hand 143 = .ok (.iload_n 2, 1) := by decide +kernel
theorem dX8_hand_144 : decode cX8_hand 144 = .ok (.aload_n 3, 1) := by decide +kernel
theorem dX8_hand_145 : decode cX8_hand 145 = .ok (.invokevirtual 219, 3) := by decide +kernel
theorem dX8_hand_148 : decode cX8_hand 148 = .ok (.aload_n 0, 1) := by decide +kernel
theorem dX8_hand_149 : decode cX8_hand 149 = .ok (.getfield 216, 3) := by decide +kernel
theorem dX8_hand_152 : decode cX8_hand 152 = .ok (.invokestatic 222, 3) := by decide +kernel
theorem dX8_hand_155 : decode cX8_hand 155 = .ok (.if_icmp .eq 7, 3) := by decide +kernel
theorem dX8_hand_158 : decode cX8_hand 158 = .ok (.iconst 1, 1) := by decide +kernel
theorem dX8_hand_159 : decode cX8_hand 159 = .ok (.goto 4, 3) := by decide +kernel
theorem dX8_hand_162 : decode cX8_hand 162 = .ok (.iconst 0, 1) := by decide +kernel
theorem dX8_hand_163 : decode cX8_hand 163 = .ok (.istore 6, 2) := by decide +kernel
theorem dX8_hand_165 : decode cX8_hand 165 = .ok (.aload_n 3, 1) := by decide +kernel
theorem dX8_hand_166 : decode cX8_hand 166 = .ok (.new 226, 3) := by decide +kernel
theorem dX8_hand_169 : decode cX8_hand 169 = .ok (.dup, 1) := by decide +kernel
theorem dX8_hand_170 : decode cX8_hand 170 = .ok (.aload_n 0, 1) := by decide +kernel
theorem dX8_hand_171 : decode cX8_hand 171 = .ok (.getfield 40, 3) := by decide +kernel
theorem dX8_hand_174 : decode cX8_hand 174 = .ok (.aload 4, 2) := by decide +kernel
theorem dX8_hand_176 : decode cX8_hand 176 = .ok (.aload 5, 2) := by decide +kernel
theorem dX8_hand_178 : decode cX8_hand 178 = .ok (.getfield 113, 3) := by decide +kernel
theorem dX8_hand_181 : decode cX8_hand 181 = .ok (.iload 6, 2) := by decide +kernel
theorem dX8_hand_183 : decode cX8_hand 183 = .ok (.invokespecial 228, 3) := by decide +kernel
theorem dX8_hand_186 : decode cX8_hand 186 = .ok (.invokevirtual 231, 3) := by decide +kernel
theorem dX8_hand_189 : decode cX8_hand 189 = .ok (.aload_n 0, 1) := by decide +kernel
theorem dX8_hand_190 : decode cX8_hand 190 = .ok (.getfield 40, 3) := by decide +kernel
theorem dX8_hand_193 : decode cX8_hand 193 = .ok (.invokevirtual 78, 3) := by decide +kernel
theorem dX8_hand_196 : decode cX8_hand 196 = .ok (.aload_n 0, 1) := by decide +kernel
theorem dX8_hand_197 : decode cX8_hand 197 = .ok (.getfield 216, 3) := by decide +kernel
