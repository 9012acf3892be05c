set_option maxRecDepth 20000 in
theorem gX8_rise_X8_isWithin : GoodIn wsX8_rise (va_wsS RX8 86 yX8_isWithin wsX8_isWithin) := goodIn_app (goodIn_of _ (by decide +kernel)) ggX8_rise_X8_isWithin
theorem dX8_rise_0 : decode cX8_rise 0 = .ok (.aload_n 0, 1) := by decide +kernel
theorem dX8_rise_1 : decode cX8_rise 1 = .ok (.iload_n 1, 1) := by decide +kernel
theorem dX8_rise_2 : decode cX8_rise 2 = .ok (.invokevirtual 92, 3) := by decide +kernel
theorem dX8_rise_5 : decode cX8_rise 5 = .ok (.astore_n 3, 1) := by decide +kernel
theorem dX8_rise_6 : decode cX8_rise 6 = .ok (.aload_n 3, 1) := by decide +kernel
theorem dX8_rise_7 : decode cX8_rise 7 = .ok (.ifnonnull 13, 3) := by decide +kernel
theorem dX8_rise_10 : decode cX8_rise 10 = .ok (.new 96, 3) := by decide +kernel
theorem dX8_rise_13 : decode cX8_rise 13 = .ok (.dup, 1) := by decide +kernel
theorem dX8_rise_14 : decode cX8_rise 14 = .ok (.ldc 98, 2) := by decide +kernel
theorem dX8_rise_16 : decode cX8_rise 16 = .ok (.invokespecial 100, 3) := by decide +kernel
theorem dX8_rise_19 : decode cX8_rise 19 = .ok (.athrow, 1) := by decide +kernel
theorem dX8_rise_20 : decode cX8_rise 20 = .ok (.iload_n 2, 1) := by decide +kernel
theorem dX8_rise_21 : decode cX8_rise 21 = .ok (.bipush (-10), 2) := by decide +kernel
theorem dX8_rise_23 : decode cX8_rise 23 = .ok (.bipush 10, 2) := by decide +kernel
theorem dX8_rise_25 : decode cX8_rise 25 = .ok (.invokestatic 86, 3) := by decide +kernel
theorem dX8_rise_28 : decode cX8_rise 28 = .ok (.ifCond .ne 13, 3) := by decide +kernel
theorem dX8_rise_31 : decode cX8_rise 31 = .ok (.new 51, 3) := by decide +kernel
theorem dX8_rise_34 : decode cX8_rise 34 = .ok (.dup, 1) := by decide +kernel
theorem dX8_rise_35 : decode cX8_rise 35 = .ok (.ldc 108, 2) := by decide +kernel
theorem dX8_rise_37 : decode cX8_rise 37 = .ok (.invokespecial 55, 3) := by decide +kernel
theorem dX8_rise_40 : decode cX8_rise 40 = .ok (.athrow, 1) := by decide +kernel
theorem dX8_rise_41 : decode cX8_rise 41 = .ok (.aload_n 3, 1) := by decide +kernel
theorem dX8_rise_42 : decode cX8_rise 42 = .ok (.iload_n 2, 1) := by decide +kernel
theorem dX8_rise_43 : decode cX8_rise 43 = .ok (.putfield 110, 3) := by decide +kernel
theorem dX8_rise_46 : decode cX8_rise 46 = .ok (.aload_n 3, 1) := by decide +kernel
theorem dX8_rise_47 : decode cX8_rise 47 = .ok (.getfield 113, 3) := by decide +kernel
theorem dX8_rise_50 : decode cX8_rise 50 = .ok (.ireturn, 1) := by decide +kernel
set_option maxRecDepth 20000 in
theorem ggX8_style_X8_styleAt : GoodIn wsX8_style wsX8_styleAt := goodIn_r _ [12, 13, 20, 21, 22, 23, 24, 25, 26, 27, 28, 29] (by decide +kernel) (by decide +kernel)
set_option maxRecDepth 20000 in
theorem gX8_style_X8_styleAt : GoodIn wsX8_style (wsV RX8 116 RX8 yX8_styleAt wsX8_styleAt) := goodIn_app (goodIn_of _ (by decide +kernel)) ggX8_style_X8_styleAt
set_option maxRecDepth 20000 in
theorem ggX8_style_X8_isWithin : GoodIn wsX8_style wsX8_isWithin := goodIn_r _ [16] (by decide +kernel) (by decide +kernel)
set_option maxRecDepth 20000 in
theorem gX8_style_X8_isWithin : GoodIn wsX8_style (va_wsS RX8 86 yX8_isWithin wsX8_isWithin) := goodIn_app (goodIn_of _ (by decide +kernel)) ggX8_style_X8_isWithin
theorem dX8_style_0 : decode cX8_style 0 = .ok (.aload_n 0, 1) := by decide +kernel
theorem dX8_style_1 : decode cX8_style 1 = .ok (.iload_n 1, 1) := by decide +kernel
theorem dX8_style_2 : decode cX8_style 2 = .ok (.invokevirtual 116, 3) := by decide +kernel
theorem dX8_style_5 : decode cX8_style 5 = .ok (.astore 5, 2) := by decide +kernel
theorem dX8_style_7 : decode cX8_style 7 = .ok (.aload 5, 2) := by decide +kernel
theorem dX8_style_9 : decode cX8_style 9 = .ok (.ifnonnull 13, 3) := by decide +kernel
theorem dX8_style_12 : decode cX8_style 12 = .ok (.new 96, 3) := by decide +kernel
theorem dX8_style_15 : decode cX8_style 15 = .ok (.dup, 1) := by decide +kernel
theorem dX8_style_16 : decode cX8_style 16 = .ok (.ldc 120, 2) := by decide +kernel
theorem dX8_style_18 : decode cX8_style 18 = .ok (.invokespecial 100, 3) := by decide +kernel
theorem dX8_style_21 : decode cX8_style 21 = .ok (.athrow, 1) := by decide +kernel
theorem dX8_style_22 : decode cX8_style 22 = .ok (.iload_n 2, 1) := by decide +kernel
theorem dX8_style_23 : decode cX8_style 23 = .ok (.iconst 0, 1) := by decide +kernel
theorem dX8_style_24 : decode cX8_style 24 = .ok (.bipush 100, 2) := by decide +kernel
theorem dX8_style_26 : decode cX8_style 26 = .ok (.invokestatic 86, 3) := by decide +kernel
theorem dX8_style_29 : decode cX8_style 29 = .ok (.ifCond .eq 24, 3) := by decide +kernel
theorem dX8_style_32 : decode cX8_style 32 = .ok (.iload_n 3, 1) := by decide +kernel
theorem dX8_style_33 : decode cX8_style 33 = .ok (.iconst 0, 1) := by decide +kernel
theorem dX8_style_34 : decode cX8_style 34 = .ok (.bipush 100, 2) := by decide +kernel
theorem dX8_style_36 : decode cX8_style 36 = .ok (.invokestatic 86, 3) := by decide +kernel
theorem dX8_style_39 : decode cX8_style 39 = .ok (.ifCond .eq 14, 3) := by decide +kernel
theorem dX8_style_42 : decode cX8_style 42 = .ok (.iload 4, 2) := by decide +kernel
theorem dX8_style_44 : decode cX8_style 44 = .ok (.iconst 0, 1) := by decide +kernel
theorem dX8_style_45 : decode cX8_style 45 = .ok (.bipush 100, 2) := by decide +kernel
theorem dX8_style_47 : decode cX8_style 47 = .ok (.invokestatic 86, 3) := by decide +kernel
theorem dX8_style_50 : decode cX8_style 50 = .ok (.ifCond .ne 13, 3) := by decide +kernel
theorem dX8_style_53 : decode cX8_style 53 = .ok (.new 51, 3) := by decide +kernel
theorem dX8_style_56 : decode cX8_style 56 = .ok (.dup, 1) := by decide +kernel
theorem dX8_style_57 : decode cX8_style 57 = .ok (.ldc 122, 2) := by decide +kernel
theorem dX8_style_59 : decode cX8_style 59 = .ok (.invokespecial 55, 3) := by decide +kernel
theorem dX8_style_62 : decode cX8_style 62 = .ok (.athrow, 1) := by decide +kernel
theorem dX8_style_63 : decode cX8_style 63 = .ok (.aload 5, 2) := by decide +kernel
theorem dX8_style_65 : decode cX8_style 65 = .ok (.iload_n 2, 1) := by decide +kernel
theorem dX8_style_66 : decode cX8_style 66 = .ok (.putfield 124, 3) := by decide +kernel
theorem dX8_style_69 : decode cX8_style 69 = .ok (.aload 5, 2) := by decide +kernel
theorem dX8_style_71 : decode cX8_style 71 = .ok (.iload_n 3, 1) := by decide +kernel
theorem dX8_style_72 : decode cX8_style 72 = .ok (.putfield 127, 3) := by decide +kernel
theorem dX8_style_75 : decode cX8_style 75 = .ok (.aload 5, 2) := by decide +kernel
theorem dX8_style_77 : decode cX8_style 77 = .ok (.iload 4, 2) := by decide +kernel
theorem dX8_style_79 : decode cX8_style 79 = .ok (.putfield 130, 3) := by decide +kernel
theorem dX8_style_82 : decode cX8_style 82 = .ok (.return_, 1) := by decide +kernel
set_option maxRecDepth 20000 in
theorem ggX8_learn_X8_judgeAt : GoodIn wsX8_learn wsX8_judgeAt := goodIn_r _ [10, 11, 31, 32, 33, 34, 35, 36, 37, 38, 39, 40] (by decide +kernel) (by decide +kernel)
set_option maxRecDepth 20000 in
theorem gX8_learn_X8_judgeAt : GoodIn wsX8_learn (wsV RX8 133 RX8 yX8_judgeAt wsX8_judgeAt) := goodIn_app (goodIn_of _ (by decide +kernel)) ggX8_learn_X8_judgeAt
set_option maxRecDepth 20000 in
theorem ggX8_learn_X8_styleAt : GoodIn wsX8_learn wsX8_styleAt := goodIn_r _ [15, 16, 31, 32, 33, 34, 35, 36, 37, 38, 39, 40] (by decide +kernel) (by decide +kernel)
set_option maxRecDepth 20000 in
theorem gX8_learn_X8_styleAt : GoodIn wsX8_learn (wsV RX8 116 RX8 yX8_styleAt wsX8_styleAt) := goodIn_app (goodIn_of _ (by decide +kernel)) ggX8_learn_X8_styleAt
set_option maxRecDepth 20000 in
theorem ggX8_learn_X1_knowsOn : GoodIn wsX8_learn wsX1_knowsOn := goodIn_r _ [21, 22, 41] (by decide +kernel) (by decide +kernel)
set_option maxRecDepth 20000 in
theorem gX8_learn_X1_knowsOn : GoodIn wsX8_learn (wsV RX8 142 RX1 yX1_knowsOn wsX1_knowsOn) := goodIn_app (goodIn_of _ (by decide +kernel)) ggX8_learn_X1_knowsOn
set_option maxRecDepth 20000 in
theorem ggX8_learn_X1_takeUp : GoodIn wsX8_learn wsX1_takeUp := goodIn_r _ [26, 22, 41] (by decide +kernel) (by decide +kernel)
set_option maxRecDepth 20000 in
theorem gX8_learn_X1_takeUp : GoodIn wsX8_learn (wsV RX8 147 RX1 yX1_takeUp wsX1_takeUp) := goodIn_app (goodIn_of _ (by decide +kernel)) ggX8_learn_X1_takeUp
set_option maxRecDepth 20000 in
theorem ggX8_learn_X1_countKnown : GoodIn wsX8_learn wsX1_countKnown := goodIn_r _ [30, 22, 41] (by decide +kernel) (by decide +kernel)
set_option maxRecDepth 20000 in
theorem gX8_learn_X1_countKnown : GoodIn wsX8_learn (wsV RX8 151 RX1 yX1_countKnown wsX1_countKnown) := goodIn_app (goodIn_of _ (by decide +kernel)) ggX8_learn_X1_countKnown
theorem dX8_learn_0 : decode cX8_learn 0 = .ok (.aload_n 0, 1) := by decide +kernel
theorem dX8_learn_1 : decode cX8_learn 1 = .ok (.iload_n 1, 1) := by decide +kernel
theorem dX8_learn_2 : decode cX8_learn 2 = .ok (.invokevirtual 133, 3) := by decide +kernel
theorem dX8_learn_5 : decode cX8_learn 5 = .ok (.astore_n 3, 1) := by decide +kernel
theorem dX8_learn_6 : decode cX8_learn 6 = .ok (.aload_n 3, 1) := by decide +kernel
theorem dX8_learn_7 : decode cX8_learn 7 = .ok (.ifnull 11, 3) := by decide +kernel
theorem dX8_learn_10 : decode cX8_learn 10 = .ok (.aload_n 0, 1) := by decide +kernel
theorem dX8_learn_11 : decode cX8_learn 11 = .ok (.iload_n 2, 1) := by decide +kernel
theorem dX8_learn_12 : decode cX8_learn 12 = .ok (.invokevirtual 116, 3) := by decide +kernel
theorem dX8_learn_15 : decode cX8_learn 15 = .ok (.ifnonnull 13, 3) := by decide +kernel
theorem dX8_learn_18 : decode cX8_learn 18 = .ok (.new 96, 3) := by decide +kernel
theorem dX8_learn_21 : decode cX8_learn 21 = .ok (.dup, 1) := by decide +kernel
theorem dX8_learn_22 : decode cX8_learn 22 = .ok (.ldc 137, 2) := by decide +kernel
theorem dX8_learn_24 : decode cX8_learn 24 = .ok (.invokespecial 100, 3) := by decide +kernel
theorem dX8_learn_27 : decode cX8_learn 27 = .ok (.athrow, 1) := by decide +kernel
theorem dX8_learn_28 : decode cX8_learn 28 = .ok (.aload_n 3, 1) := by decide +kernel
theorem dX8_learn_29 : decode cX8_learn 29 = .ok (.iload_n 2, 1) := by decide +kernel
theorem dX8_learn_30 : decode cX8_learn 30 = .ok (.aload_n 0, 1) := by decide +kernel
theorem dX8_learn_31 : decode cX8_learn 31 = .ok (.getfield 139, 3) := by decide +kernel
theorem dX8_learn_34 : decode cX8_learn 34 = .ok (.invokevirtual 142, 3) := by decide +kernel
theorem dX8_learn_37 : decode cX8_learn 37 = .ok (.ifCond .eq 13, 3) := by decide +kernel
theorem dX8_learn_40 : decode cX8_learn 40 = .ok (.new 64, 3) := by decide +kernel
theorem dX8_learn_43 : decode cX8_learn 43 = .ok (.dup, 1) := by decide +kernel
theorem dX8_learn_44 : decode cX8_learn 44 = .ok (.ldc 145, 2) := by decide +kernel
theorem dX8_learn_46 : decode cX8_learn 46 = .ok (.invokespecial 68, 3) := by decide +kernel
theorem dX8_learn_49 : decode cX8_learn 49 = .ok (.athrow, 1) := by decide +kernel
theorem dX8_learn_50 : decode cX8_learn 50 = .ok (.aload_n 3, 1) := by decide +kernel
theorem dX8_learn_51 : decode cX8_learn 51 = .ok (.iload_n 2, 1) := by decide +kernel
theorem dX8_learn_52 : decode cX8_learn 52 = .ok (.aload_n 0, 1) := by decide +kernel
theorem dX8_learn_53 : decode cX8_learn 53 = .ok (.getfield 139, 3) := by decide +kernel
theorem dX8_learn_56 : decode cX8_learn 56 = .ok (.invokevirtual 147, 3) := by decide +kernel
theorem dX8_learn_59 : decode cX8_learn 59 = .ok (.aload_n 3, 1) := by decide +kernel
theorem dX8_learn_60 : decode cX8_learn 60 = .ok (.invokevirtual 151, 3) := by decide +kernel
theorem dX8_learn_63 : decode cX8_learn 63 = .ok (.ireturn, 1) := by decide +kernel
set_option maxRecDepth 20000 in
theorem ggX8_pass_X8_isWithin : GoodIn wsX8_pass wsX8_isWithin := goodIn_r _ [10] (by decide +kernel) (by decide +kernel)
set_option maxRecDepth 20000 in
theorem gX8_pass_X8_isWithin : GoodIn wsX8_pass (va_wsS RX8 86 yX8_isWithin wsX8_isWithin) := goodIn_app (goodIn_of _ (by decide +kernel)) ggX8_pass_X8_isWithin
set_option maxRecDepth 20000 in
theorem ggX8_pass_X2_age : GoodIn wsX8_pass wsX2_age := goodIn_r _ [15, 16, 17, 18, 19, 20, 21, 22, 23, 24, 35, 36, 37] (by decide +kernel) (by decide +kernel)
set_option maxRecDepth 20000 in
theorem gX8_pass_X2_age : GoodIn wsX8_pass (wsV RX8 159 RX2 yX2_age wsX2_age) := goodIn_app (goodIn_of _ (by decide +kernel)) ggX8_pass_X2_age
theorem dX8_pass_0 : decode cX8_pass 0 = .ok (.iload_n 1, 1) := by decide +kernel
theorem dX8_pass_1 : decode cX8_pass 1 = .ok (.iconst 1, 1) := by decide +kernel
theorem dX8_pass_2 : decode cX8_pass 2 = .ok (.bipush 100, 2) := by decide +kernel
theorem dX8_pass_4 : decode cX8_pass 4 = .ok (.invokestatic 86, 3) := by decide +kernel
theorem dX8_pass_7 : decode cX8_pass 7 = .ok (.ifCond .ne 13, 3) := by decide +kernel
theorem dX8_pass_10 : decode cX8_pass 10 = .ok (.new 51, 3) := by decide +kernel
theorem dX8_pass_13 : decode cX8_pass 13 = .ok (.dup, 1) := by decide +kernel
theorem dX8_pass_14 : decode cX8_pass 14 = .ok (.ldc 155, 2) := by decide +kernel
theorem dX8_pass_16 : decode cX8_pass 16 = .ok (.invokespecial 55, 3) := by decide +kernel
theorem dX8_pass_19 : decode cX8_pass 19 = .ok (.athrow, 1) := by decide +kernel
theorem dX8_pass_20 : decode cX8_pass 20 = .ok (.aload_n 0, 1) := by decide +kernel
theorem dX8_pass_21 : decode cX8_pass 21 = .ok (.getfield 139, 3) := by decide +kernel
theorem dX8_pass_24 : decode cX8_pass 24 = .ok (.iload_n 1, 1) := by decide +kernel
theorem dX8_pass_25 : decode cX8_pass 25 = .ok (.iadd, 1) := by decide +kernel
theorem dX8_pass_26 : decode cX8_pass 26 = .ok (.sipush 5000, 3) := by decide +kernel
theorem dX8_pass_29 : decode cX8_pass 29 = .ok (.if_icmp .le 13, 3) := by decide +kernel
theorem dX8_pass_32 : decode cX8_pass 32 = .ok (.new 64, 3) := by decide +kernel
theorem dX8_pass_35 : decode cX8_pass 35 = .ok (.dup, 1) := by decide +kernel
theorem dX8_pass_36 : decode cX8_pass 36 = .ok (.ldc 157, 2) := by decide +kernel
theorem dX8_pass_38 : decode cX8_pass 38 = .ok (.invokespecial 68, 3) := by decide +kernel
theorem dX8_pass_41 : decode cX8_pass 41 = .ok (.athrow, 1) := by decide +kernel
theorem dX8_pass_42 : decode cX8_pass 42 = .ok (.aload_n 0, 1) := by decide +kernel
theorem dX8_pass_43 : decode cX8_pass 43 = .ok (.dup, 1) := by decide +kernel
theorem dX8_pass_44 : decode cX8_pass 44 = .ok (.getfield 139, 3) := by decide +kernel
theorem dX8_pass_47 : decode cX8_pass 47 = .ok (.iload_n 1, 1) := by decide +kernel
theorem dX8_pass_48 : decode cX8_pass 48 = .ok (.iadd, 1) := by decide +kernel
theorem dX8_pass_49 : decode cX8_pass 49 = .ok (.putfield 139, 3) := by decide +kernel
theorem dX8_pass_52 : decode cX8_pass 52 = .ok (.iconst 0, 1) := by decide +kernel
theorem dX8_pass_53 : decode cX8_pass 53 = .ok (.istore_n 2, 1) := by decide +kernel
theorem dX8_pass_54 : decode cX8_pass 54 = .ok (.iload_n 2, 1) := by decide +kernel
theorem dX8_pass_55 : decode cX8_pass 55 = .ok (.aload_n 0, 1) := by decide +kernel
theorem dX8_pass_56 : decode cX8_pass 56 = .ok (.getfield 17, 3) := by decide +kernel
theorem dX8_pass_59 : decode cX8_pass 59 = .ok (.arraylength, 1) := by decide +kernel
theorem dX8_pass_60 : decode cX8_pass 60 = .ok (.if_icmp .ge 28, 3) := by decide +kernel
theorem dX8_pass_63 : decode cX8_pass 63 = .ok (.aload_n 0, 1) := by decide +kernel
theorem dX8_pass_64 : decode cX8_pass 64 = .ok (.getfield 17, 3) := by decide +kernel
theorem dX8_pass_67 : decode cX8_pass 67 = .ok (.iload_n 2, 1) := by decide +kernel
theorem dX8_pass_68 : decode cX8_pass 68 = .ok (.aaload, 1) := by decide +kernel
theorem dX8_pass_69 : decode cX8_pass 69 = .ok (.ifnull 13, 3) := by decide +kernel
theorem dX8_pass_72 : decode cX8_pass 72 = .ok (.aload_n 0, 1) := by decide +kernel
theorem dX8_pass_73 : decode cX8_pass 73 = .ok (.getfield 17, 3) := by decide +kernel
theorem dX8_pass_76 : decode cX8_pass 76 = .ok (.iload_n 2, 1) := by decide +kernel
theorem dX8_pass_77 : decode cX8_pass 77 = .ok (.aaload, 1) := by decide +kernel
theorem dX8_pass_78 : decode cX8_pass 78 = .ok (.iload_n 1, 1) := by decide +kernel
theorem dX8_pass_79 : decode cX8_pass 79 = .ok (.invokevirtual 159, 3) := by decide +kernel
theorem dX8_pass_82 : decode cX8_pass 82 = .ok (.iinc 2 1, 3) := by decide +kernel
theorem dX8_pass_85 : decode cX8_pass 85 = .ok (.goto (-31), 3) := by decide +kernel
theorem dX8_pass_88 : decode cX8_pass 88 = .ok (.aload_n 0, 1) := by decide +kernel
theorem dX8_pass_89 : decode cX8_pass 89 = .ok (.getfield 139, 3) := by decide +kernel
theorem dX8_pass_92 : decode cX8_pass 92 = .ok (.ireturn, 1) := by decide +kernel
set_option maxRecDepth 20000 in
theorem ggX8_duel_X8_isWriter : GoodIn wsX8_duel wsX8_isWriter := goodIn_r _ [17, 18, 19, 16, 20] (by decide +kernel) (by decide +kernel)
set_option maxRecDepth 20000 in
theorem gX8_duel_X8_isWriter : GoodIn wsX8_duel (va_wsS RX8 163 yX8_isWriter wsX8_isWriter) := goodIn_app (goodIn_of _ (by decide +kernel)) ggX8_duel_X8_isWriter
set_option maxRecDepth 20000 in
theorem ggX8_duel_X8_judgeAt : GoodIn wsX8_duel wsX8_judgeAt := goodIn_r _ [24, 25, 52, 53, 54, 55, 56, 57, 58, 59, 60, 61] (by decide +kernel) (by decide +kernel)
set_option maxRecDepth 20000 in
theorem gX8_duel_X8_judgeAt : GoodIn wsX8_duel (wsV RX8 133 RX8 yX8_judgeAt wsX8_judgeAt) := goodIn_app (goodIn_of _ (by decide +kernel)) ggX8_duel_X8_judgeAt
set_option maxRecDepth 20000 in
theorem ggX8_duel_X8_paperAt : GoodIn wsX8_duel wsX8_paperAt := goodIn_r _ [29, 30, 52, 53, 54, 55, 56, 57, 58, 59, 60, 61] (by decide +kernel) (by decide +kernel)
set_option maxRecDepth 20000 in
theorem gX8_duel_X8_paperAt : GoodIn wsX8_duel (wsV RX8 92 RX8 yX8_paperAt wsX8_paperAt) := goodIn_app (goodIn_of _ (by decide +kernel)) ggX8_duel_X8_paperAt
set_option maxRecDepth 20000 in
theorem ggX8_duel_X8_isWithin : GoodIn wsX8_duel wsX8_isWithin := goodIn_r _ [20] (by decide +kernel) (by decide +kernel)
set_option maxRecDepth 20000 in
theorem gX8_duel_X8_isWithin : GoodIn wsX8_duel (va_wsS RX8 86 yX8_isWithin wsX8_isWithin) := goodIn_app (goodIn_of _ (by decide +kernel)) ggX8_duel_X8_isWithin
set_option maxRecDepth 20000 in
theorem ggX8_duel_X0_init : GoodIn wsX8_duel wsX0_init := goodIn_r _ [33, 34, 35, 36, 37, 38, 39, 40, 41, 42, 43, 44, 45, 46, 47, 62, 63, 64, 65, 66, 67, 68, 69, 70, 71] (by decide +kernel) (by decide +kernel)
set_option maxRecDepth 20000 in
theorem gX8_duel_X0_init : GoodIn wsX8_duel (wsX0_init) := ggX8_duel_X0_init
set_option maxRecDepth 20000 in
theorem ggX8_duel_X0_drawPrompts : GoodIn wsX8_duel wsX0_drawPrompts := goodIn_r _ [51, 38, 46, 62, 63, 64, 65, 66, 67, 68, 69, 70, 71] (by decide +kernel) (by decide +kernel)
set_option maxRecDepth 20000 in
theorem gX8_duel_X0_drawPrompts : GoodIn wsX8_duel (wsV RX8 183 RX0 yX0_drawPrompts wsX0_drawPrompts) := goodIn_app (goodIn_of _ (by decide +kernel)) ggX8_duel_X0_drawPrompts
theorem dX8_duel_0 : decode cX8_duel 0 = .ok (.iload_n 1, 1) := by decide +kernel
theorem dX8_duel_1 : decode cX8_duel 1 = .ok (.invokestatic 163, 3) := by decide +kernel
theorem dX8_duel_4 : decode cX8_duel 4 = .ok (.ifCond .eq 10, 3) := by decide +kernel
theorem dX8_duel_7 : decode cX8_duel 7 = .ok (.iload_n 2, 1) := by decide +kernel
theorem dX8_duel_8 : decode cX8_duel 8 = .ok (.invokestatic 163, 3) := by decide +kernel
theorem dX8_duel_11 : decode cX8_duel 11 = .ok (.ifCond .ne 13, 3) := by decide +kernel
theorem dX8_duel_14 : decode cX8_duel 14 = .ok (.new 96, 3) := by decide +kernel
theorem dX8_duel_17 : decode cX8_duel 17 = .ok (.dup, 1) := by decide +kernel
theorem dX8_duel_18 : decode cX8_duel 18 = .ok (.ldc 167, 2) := by decide +kernel
theorem dX8_duel_20 : decode cX8_duel 20 = .ok (.invokespecial 100, 3) := by decide +kernel
theorem dX8_duel_23 : decode cX8_duel 23 = .ok (.athrow, 1) := by decide +kernel
theorem dX8_duel_24 : decode cX8_duel 24 = .ok (.aload_n 0, 1) := by decide +kernel
theorem dX8_duel_25 : decode cX8_duel 25 = .ok (.iload_n 3, 1) := by decide +kernel
theorem dX8_duel_26 : decode cX8_duel 26 = .ok (.invokevirtual 133, 3) := by decide +kernel
