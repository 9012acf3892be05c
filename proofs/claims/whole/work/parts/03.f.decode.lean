theorem dX9_promptOf_0 : decode cX9_promptOf 0 = .ok (.aload_n 0, 1) := by decide +kernel
theorem dX9_promptOf_1 : decode cX9_promptOf 1 = .ok (.getfield 52, 3) := by decide +kernel
theorem dX9_promptOf_4 : decode cX9_promptOf 4 = .ok (.iload_n 1, 1) := by decide +kernel
theorem dX9_promptOf_5 : decode cX9_promptOf 5 = .ok (.iaload, 1) := by decide +kernel
theorem dX9_promptOf_6 : decode cX9_promptOf 6 = .ok (.bipush 17, 2) := by decide +kernel
theorem dX9_promptOf_8 : decode cX9_promptOf 8 = .ok (.iload_n 2, 1) := by decide +kernel
theorem dX9_promptOf_9 : decode cX9_promptOf 9 = .ok (.imul, 1) := by decide +kernel
theorem dX9_promptOf_10 : decode cX9_promptOf 10 = .ok (.iadd, 1) := by decide +kernel
theorem dX9_promptOf_11 : decode cX9_promptOf 11 = .ok (.aload_n 0, 1) := by decide +kernel
theorem dX9_promptOf_12 : decode cX9_promptOf 12 = .ok (.getfield 55, 3) := by decide +kernel
theorem dX9_promptOf_15 : decode cX9_promptOf 15 = .ok (.iload_n 1, 1) := by decide +kernel
theorem dX9_promptOf_16 : decode cX9_promptOf 16 = .ok (.iaload, 1) := by decide +kernel
theorem dX9_promptOf_17 : decode cX9_promptOf 17 = .ok (.irem, 1) := by decide +kernel
theorem dX9_promptOf_18 : decode cX9_promptOf 18 = .ok (.ireturn, 1) := by decide +kernel
theorem dX9_amount_0 : decode cX9_amount 0 = .ok (.iload_n 0, 1) := by decide +kernel
theorem dX9_amount_1 : decode cX9_amount 1 = .ok (.ifCond .ge 8, 3) := by decide +kernel
theorem dX9_amount_4 : decode cX9_amount 4 = .ok (.iload_n 0, 1) := by decide +kernel
theorem dX9_amount_5 : decode cX9_amount 5 = .ok (.ineg, 1) := by decide +kernel
theorem dX9_amount_6 : decode cX9_amount 6 = .ok (.goto 4, 3) := by decide +kernel
theorem dX9_amount_9 : decode cX9_amount 9 = .ok (.iload_n 0, 1) := by decide +kernel
theorem dX9_amount_10 : decode cX9_amount 10 = .ok (.ireturn, 1) := by decide +kernel
theorem dX9_above_0 : decode cX9_above 0 = .ok (.fload_n 0, 1) := by decide +kernel
theorem dX9_above_1 : decode cX9_above 1 = .ok (.fconst 0, 1) := by decide +kernel
theorem dX9_above_2 : decode cX9_above 2 = .ok (.fcmp .l, 1) := by decide +kernel
theorem dX9_above_3 : decode cX9_above 3 = .ok (.ifCond .le 7, 3) := by decide +kernel
theorem dX9_above_6 : decode cX9_above 6 = .ok (.fload_n 0, 1) := by decide +kernel
theorem dX9_above_7 : decode cX9_above 7 = .ok (.goto 4, 3) := by decide +kernel
theorem dX9_above_10 : decode cX9_above 10 = .ok (.fconst 0, 1) := by decide +kernel
theorem dX9_above_11 : decode cX9_above 11 = .ok (.freturn, 1) := by decide +kernel
set_option maxRecDepth 20000 in
theorem ggX9_nearness_X9_amount : GoodIn wsX9_nearness wsX9_amount := goodIn_r _ [6] (by decide +kernel) (by decide +kernel)
set_option maxRecDepth 20000 in
theorem gX9_nearness_X9_amount : GoodIn wsX9_nearness (va_wsS RX9 125 yX9_amount wsX9_amount) := goodIn_app (goodIn_of _ (by decide +kernel)) ggX9_nearness_X9_amount
set_option maxRecDepth 20000 in
theorem ggX9_nearness_X9_above : GoodIn wsX9_nearness wsX9_above := goodIn_r _ [9] (by decide +kernel) (by decide +kernel)
set_option maxRecDepth 20000 in
theorem gX9_nearness_X9_above : GoodIn wsX9_nearness (va_wsS RX9 130 yX9_above wsX9_above) := goodIn_app (goodIn_of _ (by decide +kernel)) ggX9_nearness_X9_above
theorem dX9_nearness_0 : decode cX9_nearness 0 = .ok (.iconst 0, 1) := by decide +kernel
theorem dX9_nearness_1 : decode cX9_nearness 1 = .ok (.istore 5, 2) := by decide +kernel
theorem dX9_nearness_3 : decode cX9_nearness 3 = .ok (.iconst 0, 1) := by decide +kernel
theorem dX9_nearness_4 : decode cX9_nearness 4 = .ok (.istore 6, 2) := by decide +kernel
theorem dX9_nearness_6 : decode cX9_nearness 6 = .ok (.iload 6, 2) := by decide +kernel
theorem dX9_nearness_8 : decode cX9_nearness 8 = .ok (.iconst 4, 1) := by decide +kernel
theorem dX9_nearness_9 : decode cX9_nearness 9 = .ok (.if_icmp .ge 30, 3) := by decide +kernel
theorem dX9_nearness_12 : decode cX9_nearness 12 = .ok (.iload 5, 2) := by decide +kernel
theorem dX9_nearness_14 : decode cX9_nearness 14 = .ok (.aload_n 0, 1) := by decide +kernel
theorem dX9_nearness_15 : decode cX9_nearness 15 = .ok (.iload_n 1, 1) := by decide +kernel
theorem dX9_nearness_16 : decode cX9_nearness 16 = .ok (.iload 6, 2) := by decide +kernel
theorem dX9_nearness_18 : decode cX9_nearness 18 = .ok (.iadd, 1) := by decide +kernel
theorem dX9_nearness_19 : decode cX9_nearness 19 = .ok (.iaload, 1) := by decide +kernel
theorem dX9_nearness_20 : decode cX9_nearness 20 = .ok (.aload_n 2, 1) := by decide +kernel
theorem dX9_nearness_21 : decode cX9_nearness 21 = .ok (.iload_n 3, 1) := by decide +kernel
theorem dX9_nearness_22 : decode cX9_nearness 22 = .ok (.iload 6, 2) := by decide +kernel
theorem dX9_nearness_24 : decode cX9_nearness 24 = .ok (.iadd, 1) := by decide +kernel
theorem dX9_nearness_25 : decode cX9_nearness 25 = .ok (.iaload, 1) := by decide +kernel
theorem dX9_nearness_26 : decode cX9_nearness 26 = .ok (.isub, 1) := by decide +kernel
theorem dX9_nearness_27 : decode cX9_nearness 27 = .ok (.invokestatic 125, 3) := by decide +kernel
theorem dX9_nearness_30 : decode cX9_nearness 30 = .ok (.iadd, 1) := by decide +kernel
theorem dX9_nearness_31 : decode cX9_nearness 31 = .ok (.istore 5, 2) := by decide +kernel
theorem dX9_nearness_33 : decode cX9_nearness 33 = .ok (.iinc 6 1, 3) := by decide +kernel
theorem dX9_nearness_36 : decode cX9_nearness 36 = .ok (.goto (-30), 3) := by decide +kernel
theorem dX9_nearness_39 : decode cX9_nearness 39 = .ok (.ldc 129, 2) := by decide +kernel
theorem dX9_nearness_41 : decode cX9_nearness 41 = .ok (.iload 5, 2) := by decide +kernel
theorem dX9_nearness_43 : decode cX9_nearness 43 = .ok (.i2f, 1) := by decide +kernel
theorem dX9_nearness_44 : decode cX9_nearness 44 = .ok (.ldc 129, 2) := by decide +kernel
theorem dX9_nearness_46 : decode cX9_nearness 46 = .ok (.fdiv, 1) := by decide +kernel
theorem dX9_nearness_47 : decode cX9_nearness 47 = .ok (.fsub, 1) := by decide +kernel
theorem dX9_nearness_48 : decode cX9_nearness 48 = .ok (.invokestatic 130, 3) := by decide +kernel
theorem dX9_nearness_51 : decode cX9_nearness 51 = .ok (.fconst 1, 1) := by decide +kernel
theorem dX9_nearness_52 : decode cX9_nearness 52 = .ok (.iload 4, 2) := by decide +kernel
theorem dX9_nearness_54 : decode cX9_nearness 54 = .ok (.i2f, 1) := by decide +kernel
theorem dX9_nearness_55 : decode cX9_nearness 55 = .ok (.ldc 134, 2) := by decide +kernel
theorem dX9_nearness_57 : decode cX9_nearness 57 = .ok (.fdiv, 1) := by decide +kernel
theorem dX9_nearness_58 : decode cX9_nearness 58 = .ok (.fsub, 1) := by decide +kernel
theorem dX9_nearness_59 : decode cX9_nearness 59 = .ok (.fmul, 1) := by decide +kernel
theorem dX9_nearness_60 : decode cX9_nearness 60 = .ok (.freturn, 1) := by decide +kernel
set_option maxRecDepth 20000 in
theorem ggX9_slope_X9_amount : GoodIn wsX9_slope wsX9_amount := goodIn_r _ [5] (by decide +kernel) (by decide +kernel)
set_option maxRecDepth 20000 in
theorem gX9_slope_X9_amount : GoodIn wsX9_slope (va_wsS RX9 125 yX9_amount wsX9_amount) := goodIn_app (goodIn_of _ (by decide +kernel)) ggX9_slope_X9_amount
set_option maxRecDepth 20000 in
theorem ggX9_slope_X9_above : GoodIn wsX9_slope wsX9_above := goodIn_r _ [8] (by decide +kernel) (by decide +kernel)
set_option maxRecDepth 20000 in
theorem gX9_slope_X9_above : GoodIn wsX9_slope (va_wsS RX9 130 yX9_above wsX9_above) := goodIn_app (goodIn_of _ (by decide +kernel)) ggX9_slope_X9_above
theorem dX9_slope_0 : decode cX9_slope 0 = .ok (.aload_n 0, 1) := by decide +kernel
theorem dX9_slope_1 : decode cX9_slope 1 = .ok (.iload_n 1, 1) := by decide +kernel
theorem dX9_slope_2 : decode cX9_slope 2 = .ok (.iconst 2, 1) := by decide +kernel
theorem dX9_slope_3 : decode cX9_slope 3 = .ok (.iadd, 1) := by decide +kernel
theorem dX9_slope_4 : decode cX9_slope 4 = .ok (.iaload, 1) := by decide +kernel
theorem dX9_slope_5 : decode cX9_slope 5 = .ok (.aload_n 0, 1) := by decide +kernel
theorem dX9_slope_6 : decode cX9_slope 6 = .ok (.iload_n 1, 1) := by decide +kernel
theorem dX9_slope_7 : decode cX9_slope 7 = .ok (.iaload, 1) := by decide +kernel
theorem dX9_slope_8 : decode cX9_slope 8 = .ok (.isub, 1) := by decide +kernel
theorem dX9_slope_9 : decode cX9_slope 9 = .ok (.istore 4, 2) := by decide +kernel
theorem dX9_slope_11 : decode cX9_slope 11 = .ok (.aload_n 0, 1) := by decide +kernel
theorem dX9_slope_12 : decode cX9_slope 12 = .ok (.iload_n 1, 1) := by decide +kernel
theorem dX9_slope_13 : decode cX9_slope 13 = .ok (.iconst 3, 1) := by decide +kernel
theorem dX9_slope_14 : decode cX9_slope 14 = .ok (.iadd, 1) := by decide +kernel
theorem dX9_slope_15 : decode cX9_slope 15 = .ok (.iaload, 1) := by decide +kernel
theorem dX9_slope_16 : decode cX9_slope 16 = .ok (.aload_n 0, 1) := by decide +kernel
theorem dX9_slope_17 : decode cX9_slope 17 = .ok (.iload_n 1, 1) := by decide +kernel
theorem dX9_slope_18 : decode cX9_slope 18 = .ok (.iconst 1, 1) := by decide +kernel
theorem dX9_slope_19 : decode cX9_slope 19 = .ok (.iadd, 1) := by decide +kernel
theorem dX9_slope_20 : decode cX9_slope 20 = .ok (.iaload, 1) := by decide +kernel
theorem dX9_slope_21 : decode cX9_slope 21 = .ok (.isub, 1) := by decide +kernel
theorem dX9_slope_22 : decode cX9_slope 22 = .ok (.istore 5, 2) := by decide +kernel
theorem dX9_slope_24 : decode cX9_slope 24 = .ok (.aload_n 2, 1) := by decide +kernel
theorem dX9_slope_25 : decode cX9_slope 25 = .ok (.iload_n 3, 1) := by decide +kernel
theorem dX9_slope_26 : decode cX9_slope 26 = .ok (.iconst 2, 1) := by decide +kernel
theorem dX9_slope_27 : decode cX9_slope 27 = .ok (.iadd, 1) := by decide +kernel
theorem dX9_slope_28 : decode cX9_slope 28 = .ok (.iaload, 1) := by decide +kernel
theorem dX9_slope_29 : decode cX9_slope 29 = .ok (.aload_n 2, 1) := by decide +kernel
theorem dX9_slope_30 : decode cX9_slope 30 = .ok (.iload_n 3, 1) := by decide +kernel
theorem dX9_slope_31 : decode cX9_slope 31 = .ok (.iaload, 1) := by decide +kernel
theorem dX9_slope_32 : decode cX9_slope 32 = .ok (.isub, 1) := by decide +kernel
theorem dX9_slope_33 : decode cX9_slope 33 = .ok (.istore 6, 2) := by decide +kernel
theorem dX9_slope_35 : decode cX9_slope 35 = .ok (.aload_n 2, 1) := by decide +kernel
theorem dX9_slope_36 : decode cX9_slope 36 = .ok (.iload_n 3, 1) := by decide +kernel
theorem dX9_slope_37 : decode cX9_slope 37 = .ok (.iconst 3, 1) := by decide +kernel
theorem dX9_slope_38 : decode cX9_slope 38 = .ok (.iadd, 1) := by decide +kernel
theorem dX9_slope_39 : decode cX9_slope 39 = .ok (.iaload, 1) := by decide +kernel
theorem dX9_slope_40 : decode cX9_slope 40 = .ok (.aload_n 2, 1) := by decide +kernel
theorem dX9_slope_41 : decode cX9_slope 41 = .ok (.iload_n 3, 1) := by decide +kernel
theorem dX9_slope_42 : decode cX9_slope 42 = .ok (.iconst 1, 1) := by decide +kernel
theorem dX9_slope_43 : decode cX9_slope 43 = .ok (.iadd, 1) := by decide +kernel
theorem dX9_slope_44 : decode cX9_slope 44 = .ok (.iaload, 1) := by decide +kernel
theorem dX9_slope_45 : decode cX9_slope 45 = .ok (.isub, 1) := by decide +kernel
theorem dX9_slope_46 : decode cX9_slope 46 = .ok (.istore 7, 2) := by decide +kernel
theorem dX9_slope_48 : decode cX9_slope 48 = .ok (.iload 4, 2) := by decide +kernel
theorem dX9_slope_50 : decode cX9_slope 50 = .ok (.iload 6, 2) := by decide +kernel
theorem dX9_slope_52 : decode cX9_slope 52 = .ok (.imul, 1) := by decide +kernel
theorem dX9_slope_53 : decode cX9_slope 53 = .ok (.iload 5, 2) := by decide +kernel
theorem dX9_slope_55 : decode cX9_slope 55 = .ok (.iload 7, 2) := by decide +kernel
theorem dX9_slope_57 : decode cX9_slope 57 = .ok (.imul, 1) := by decide +kernel
theorem dX9_slope_58 : decode cX9_slope 58 = .ok (.iadd, 1) := by decide +kernel
theorem dX9_slope_59 : decode cX9_slope 59 = .ok (.istore 8, 2) := by decide +kernel
theorem dX9_slope_61 : decode cX9_slope 61 = .ok (.iload 8, 2) := by decide +kernel
theorem dX9_slope_63 : decode cX9_slope 63 = .ok (.i2f, 1) := by decide +kernel
theorem dX9_slope_64 : decode cX9_slope 64 = .ok (.iload 8, 2) := by decide +kernel
theorem dX9_slope_66 : decode cX9_slope 66 = .ok (.invokestatic 125, 3) := by decide +kernel
theorem dX9_slope_69 : decode cX9_slope 69 = .ok (.i2f, 1) := by decide +kernel
theorem dX9_slope_70 : decode cX9_slope 70 = .ok (.fmul, 1) := by decide +kernel
theorem dX9_slope_71 : decode cX9_slope 71 = .ok (.iload 4, 2) := by decide +kernel
theorem dX9_slope_73 : decode cX9_slope 73 = .ok (.iload 4, 2) := by decide +kernel
theorem dX9_slope_75 : decode cX9_slope 75 = .ok (.imul, 1) := by decide +kernel
theorem dX9_slope_76 : decode cX9_slope 76 = .ok (.iload 5, 2) := by decide +kernel
theorem dX9_slope_78 : decode cX9_slope 78 = .ok (.iload 5, 2) := by decide +kernel
theorem dX9_slope_80 : decode cX9_slope 80 = .ok (.imul, 1) := by decide +kernel
theorem dX9_slope_81 : decode cX9_slope 81 = .ok (.iadd, 1) := by decide +kernel
theorem dX9_slope_82 : decode cX9_slope 82 = .ok (.i2f, 1) := by decide +kernel
theorem dX9_slope_83 : decode cX9_slope 83 = .ok (.fdiv, 1) := by decide +kernel
theorem dX9_slope_84 : decode cX9_slope 84 = .ok (.iload 6, 2) := by decide +kernel
theorem dX9_slope_86 : decode cX9_slope 86 = .ok (.iload 6, 2) := by decide +kernel
theorem dX9_slope_88 : decode cX9_slope 88 = .ok (.imul, 1) := by decide +kernel
theorem dX9_slope_89 : decode cX9_slope 89 = .ok (.iload 7, 2) := by decide +kernel
theorem dX9_slope_91 : decode cX9_slope 91 = .ok (.iload 7, 2) := by decide +kernel
theorem dX9_slope_93 : decode cX9_slope 93 = .ok (.imul, 1) := by decide +kernel
theorem dX9_slope_94 : decode cX9_slope 94 = .ok (.iadd, 1) := by decide +kernel
theorem dX9_slope_95 : decode cX9_slope 95 = .ok (.i2f, 1) := by decide +kernel
theorem dX9_slope_96 : decode cX9_slope 96 = .ok (.fdiv, 1) := by decide +kernel
theorem dX9_slope_97 : decode cX9_slope 97 = .ok (.ldc 129, 2) := by decide +kernel
theorem dX9_slope_99 : decode cX9_slope 99 = .ok (.fmul, 1) := by decide +kernel
theorem dX9_slope_100 : decode cX9_slope 100 = .ok (.invokestatic 130, 3) := by decide +kernel
theorem dX9_slope_103 : decode cX9_slope 103 = .ok (.freturn, 1) := by decide +kernel
theorem dX9_order_0 : decode cX9_order 0 = .ok (.iload_n 0, 1) := by decide +kernel
theorem dX9_order_1 : decode cX9_order 1 = .ok (.iload_n 1, 1) := by decide +kernel
theorem dX9_order_2 : decode cX9_order 2 = .ok (.if_icmp .ne 8, 3) := by decide +kernel
theorem dX9_order_5 : decode cX9_order 5 = .ok (.ldc 129, 2) := by decide +kernel
theorem dX9_order_7 : decode cX9_order 7 = .ok (.goto 4, 3) := by decide +kernel
theorem dX9_order_10 : decode cX9_order 10 = .ok (.fconst 0, 1) := by decide +kernel
theorem dX9_order_11 : decode cX9_order 11 = .ok (.freturn, 1) := by decide +kernel
set_option maxRecDepth 20000 in
theorem ggX9_markOf_X9_nearness : GoodIn wsX9_markOf wsX9_nearness := goodIn_r _ [8, 9, 10, 11, 12, 7, 13, 14, 15, 16] (by decide +kernel) (by decide +kernel)
set_option maxRecDepth 20000 in
theorem gX9_markOf_X9_nearness : GoodIn wsX9_markOf (va_wsS RX9 135 yX9_nearness wsX9_nearness) := goodIn_app (goodIn_of _ (by decide +kernel)) ggX9_markOf_X9_nearness
set_option maxRecDepth 20000 in
theorem ggX9_markOf_X9_slope : GoodIn wsX9_markOf wsX9_slope := goodIn_r _ [19, 9, 11, 12, 7, 13, 14, 15, 16] (by decide +kernel) (by decide +kernel)
set_option maxRecDepth 20000 in
theorem gX9_markOf_X9_slope : GoodIn wsX9_markOf (va_wsS RX9 139 yX9_slope wsX9_slope) := goodIn_app (goodIn_of _ (by decide +kernel)) ggX9_markOf_X9_slope
set_option maxRecDepth 20000 in
theorem ggX9_markOf_X9_order : GoodIn wsX9_markOf wsX9_order := goodIn_r _ [22, 9] (by decide +kernel) (by decide +kernel)
set_option maxRecDepth 20000 in
theorem gX9_markOf_X9_order : GoodIn wsX9_markOf (va_wsS RX9 143 yX9_order wsX9_order) := goodIn_app (goodIn_of _ (by decide +kernel)) ggX9_markOf_X9_order
theorem dX9_markOf_0 : decode cX9_markOf 0 = .ok (.aload_n 0, 1) := by decide +kernel
theorem dX9_markOf_1 : decode cX9_markOf 1 = .ok (.getfield 13, 3) := by decide +kernel
theorem dX9_markOf_4 : decode cX9_markOf 4 = .ok (.iload 4, 2) := by decide +kernel
theorem dX9_markOf_6 : decode cX9_markOf 6 = .ok (.iaload, 1) := by decide +kernel
theorem dX9_markOf_7 : decode cX9_markOf 7 = .ok (.istore 7, 2) := by decide +kernel
theorem dX9_markOf_9 : decode cX9_markOf 9 = .ok (.fconst 0, 1) := by decide +kernel
theorem dX9_markOf_10 : decode cX9_markOf 10 = .ok (.fstore 8, 2) := by decide +kernel
theorem dX9_markOf_12 : decode cX9_markOf 12 = .ok (.iconst 0, 1) := by decide +kernel
theorem dX9_markOf_13 : decode cX9_markOf 13 = .ok (.istore 9, 2) := by decide +kernel
theorem dX9_markOf_15 : decode cX9_markOf 15 = .ok (.iload 9, 2) := by decide +kernel
theorem dX9_markOf_17 : decode cX9_markOf 17 = .ok (.iload_n 3, 1) := by decide +kernel
theorem dX9_markOf_18 : decode cX9_markOf 18 = .ok (.if_icmp .ge 133, 3) := by decide +kernel
theorem dX9_markOf_21 : decode cX9_markOf 21 = .ok (.iload 9, 2) := by decide +kernel
theorem dX9_markOf_23 : decode cX9_markOf 23 = .ok (.iload 7, 2) := by decide +kernel
theorem dX9_markOf_25 : decode cX9_markOf 25 = .ok (.if_icmp .ge 126, 3) := by decide +kernel
theorem dX9_markOf_28 : decode cX9_markOf 28 = .ok (.bipush 24, 2) := by decide +kernel
theorem dX9_markOf_30 : decode cX9_markOf 30 = .ok (.iload 4, 2) := by decide +kernel
theorem dX9_markOf_32 : decode cX9_markOf 32 = .ok (.imul, 1) := by decide +kernel
theorem dX9_markOf_33 : decode cX9_markOf 33 = .ok (.iconst 4, 1) := by decide +kernel
theorem dX9_markOf_34 : decode cX9_markOf 34 = .ok (.iload 9, 2) := by decide +kernel
theorem dX9_markOf_36 : decode cX9_markOf 36 = .ok (.imul, 1) := by decide +kernel
theorem dX9_markOf_37 : decode cX9_markOf 37 = .ok (.iadd, 1) := by decide +kernel
theorem dX9_markOf_38 : decode cX9_markOf 38 = .ok (.istore 10, 2) := by decide +kernel
theorem dX9_markOf_40 : decode cX9_markOf 40 = .ok (.fconst 0, 1) := by decide +kernel
theorem dX9_markOf_41 : decode cX9_markOf 41 = .ok (.fstore 11, 2) := by decide +kernel
theorem dX9_markOf_43 : decode cX9_markOf 43 = .ok (.fload 11, 2) := by decide +kernel
theorem dX9_markOf_45 : decode cX9_markOf 45 = .ok (.aload_n 0, 1) := by decide +kernel
theorem dX9_markOf_46 : decode cX9_markOf 46 = .ok (.getfield 28, 3) := by decide +kernel
theorem dX9_markOf_49 : decode cX9_markOf 49 = .ok (.iconst 3, 1) := by decide +kernel
theorem dX9_markOf_50 : decode cX9_markOf 50 = .ok (.iload 5, 2) := by decide +kernel
theorem dX9_markOf_52 : decode cX9_markOf 52 = .ok (.imul, 1) := by decide +kernel
theorem dX9_markOf_53 : decode cX9_markOf 53 = .ok (.iaload, 1) := by decide +kernel
theorem dX9_markOf_54 : decode cX9_markOf 54 = .ok (.i2f, 1) := by decide +kernel
theorem dX9_markOf_55 : decode cX9_markOf 55 = .ok (.aload_n 1, 1) := by decide +kernel
theorem dX9_markOf_56 : decode cX9_markOf 56 = .ok (.iload_n 2, 1) := by decide +kernel
theorem dX9_markOf_57 : decode cX9_markOf 57 = .ok (.iconst 4, 1) := by decide +kernel
theorem dX9_markOf_58 : decode cX9_markOf 58 = .ok (.iload 9, 2) := by decide +kernel
theorem dX9_markOf_60 : decode cX9_markOf 60 = .ok (.imul, 1) := by decide +kernel
theorem dX9_markOf_61 : decode cX9_markOf 61 = .ok (.iadd, 1) := by decide +kernel
theorem dX9_markOf_62 : decode cX9_markOf 62 = .ok (.aload_n 0, 1) := by decide +kernel
theorem dX9_markOf_63 : decode cX9_markOf 63 = .ok (.getfield 16, 3) := by decide +kernel
theorem dX9_markOf_66 : decode cX9_markOf 66 = .ok (.iload 10, 2) := by decide +kernel
theorem dX9_markOf_68 : decode cX9_markOf 68 = .ok (.iload 6, 2) := by decide +kernel
theorem dX9_markOf_70 : decode cX9_markOf 70 = .ok (.invokestatic 135, 3) := by decide +kernel
theorem dX9_markOf_73 : decode cX9_markOf 73 = .ok (.fmul, 1) := by decide +kernel
theorem dX9_markOf_74 : decode cX9_markOf 74 = .ok (.fadd, 1) := by decide +kernel
theorem dX9_markOf_75 : decode cX9_markOf 75 = .ok (.fstore 11, 2) := by decide +kernel
theorem dX9_markOf_77 : decode cX9_markOf 77 = .ok (.fload 11, 2) := by decide +kernel
theorem dX9_markOf_79 : decode cX9_markOf 79 = .ok (.aload_n 0, 1) := by decide +kernel
theorem dX9_markOf_80 : decode cX9_markOf 80 = .ok (.getfield 28, 3) := by decide +kernel
theorem dX9_markOf_83 : decode cX9_markOf 83 = .ok (.iconst 3, 1) := by decide +kernel
theorem dX9_markOf_84 : decode cX9_markOf 84 = .ok (.iload 5, 2) := by decide +kernel
theorem dX9_markOf_86 : decode cX9_markOf 86 = .ok (.imul, 1) := by decide +kernel
theorem dX9_markOf_87 : decode cX9_markOf 87 = .ok (.iconst 1, 1) := by decide +kernel
theorem dX9_markOf_88 : decode cX9_markOf 88 = .ok (.iadd, 1) := by decide +kernel
theorem dX9_markOf_89 : decode cX9_markOf 89 = .ok (.iaload, 1) := by decide +kernel
theorem dX9_markOf_90 : decode cX9_markOf 90 = .ok (.i2f, 1) := by decide +kernel
theorem dX9_markOf_91 : decode cX9_markOf 91 = .ok (.aload_n 1, 1) := by decide +kernel
theorem dX9_markOf_92 : decode cX9_markOf 92 = .ok (.iload_n 2, 1) := by decide +kernel
theorem dX9_markOf_93 : decode cX9_markOf 93 = .ok (.iconst 4, 1) := by decide +kernel
theorem dX9_markOf_94 : decode cX9_markOf 94 = .ok (.iload 9, 2) := by decide +kernel
theorem dX9_markOf_96 : decode cX9_markOf 96 = .ok (.imul, 1) := by decide +kernel
theorem dX9_markOf_97 : decode cX9_markOf 97 = .ok (.iadd, 1) := by decide +kernel
theorem dX9_markOf_98 : decode cX9_markOf 98 = .ok (.aload_n 0, 1) := by decide +kernel
theorem dX9_markOf_99 : decode cX9_markOf 99 = .ok (.getfield 16, 3) := by decide +kernel
theorem dX9_markOf_102 : decode cX9_markOf 102 = .ok (.iload 10, 2) := by decide +kernel
theorem dX9_markOf_104 : decode cX9_markOf 104 = .ok (.invokestatic 139, 3) := by decide +kernel
theorem dX9_markOf_107 : decode cX9_markOf 107 = .ok (.fmul, 1) := by decide +kernel
theorem dX9_markOf_108 : decode cX9_markOf 108 = .ok (.fadd, 1) := by decide +kernel
theorem dX9_markOf_109 : decode cX9_markOf 109 = .ok (.fstore 11, 2) := by decide +kernel
theorem dX9_markOf_111 : decode cX9_markOf 111 = .ok (.fload 11, 2) := by decide +kernel
theorem dX9_markOf_113 : decode cX9_markOf 113 = .ok (.aload_n 0, 1) := by decide +kernel
theorem dX9_markOf_114 : decode cX9_markOf 114 = .ok (.getfield 28, 3) := by decide +kernel
theorem dX9_markOf_117 : decode cX9_markOf 117 = .ok (.iconst 3, 1) := by decide +kernel
theorem dX9_markOf_118 : decode cX9_markOf 118 = .ok (.iload 5, 2) := by decide +kernel
theorem dX9_markOf_120 : decode cX9_markOf 120 = .ok (.imul, 1) := by decide +kernel
theorem dX9_markOf_121 : decode cX9_markOf 121 = .ok (.iconst 2, 1) := by decide +kernel
theorem dX9_markOf_122 : decode cX9_markOf 122 = .ok (.iadd, 1) := by decide +kernel
theorem dX9_markOf_123 : decode cX9_markOf 123 = .ok (.iaload, 1) := by decide +kernel
theorem dX9_markOf_124 : decode cX9_markOf 124 = .ok (.i2f, 1) := by decide +kernel
theorem dX9_markOf_125 : decode cX9_markOf 125 = .ok (.iload_n 3, 1) := by decide +kernel
theorem dX9_markOf_126 : decode cX9_markOf 126 = .ok (.iload 7, 2) := by decide +kernel
theorem dX9_markOf_128 : decode cX9_markOf 128 = .ok (.invokestatic 143, 3) := by decide +kernel
theorem dX9_markOf_131 : decode cX9_markOf 131 = .ok (.fmul, 1) := by decide +kernel
theorem dX9_markOf_132 : decode cX9_markOf 132 = .ok (.fadd, 1) := by decide +kernel
theorem dX9_markOf_133 : decode cX9_markOf 133 = .ok (.fstore 11, 2) := by decide +kernel
theorem dX9_markOf_135 : decode cX9_markOf 135 = .ok (.fload 8, 2) := by decide +kernel
theorem dX9_markOf_137 : decode cX9_markOf 137 = .ok (.fload 11, 2) := by decide +kernel
theorem dX9_markOf_139 : decode cX9_markOf 139 = .ok (.ldc 147, 2) := by decide +kernel
theorem dX9_markOf_141 : decode cX9_markOf 141 = .ok (.fdiv, 1) := by decide +kernel
theorem dX9_markOf_142 : decode cX9_markOf 142 = .ok (.fadd, 1) := by decide +kernel
theorem dX9_markOf_143 : decode cX9_markOf 143 = .ok (.fstore 8, 2) := by decide +kernel
theorem dX9_markOf_145 : decode cX9_markOf 145 = .ok (.iinc 9 1, 3) := by decide +kernel
theorem dX9_markOf_148 : decode cX9_markOf 148 = .ok (.goto (-133), 3) := by decide +kernel
theorem dX9_markOf_151 : decode cX9_markOf 151 = .ok (.fload 8, 2) := by decide +kernel
theorem dX9_markOf_153 : decode cX9_markOf 153 = .ok (.iload 7, 2) := by decide +kernel
theorem dX9_markOf_155 : decode cX9_markOf 155 = .ok (.i2f, 1) := by decide +kernel
theorem dX9_markOf_156 : decode cX9_markOf 156 = .ok (.fdiv, 1) := by decide +kernel
theorem dX9_markOf_157 : decode cX9_markOf 157 = .ok (.freturn, 1) := by decide +kernel
set_option maxRecDepth 20000 in
theorem ggX9_byJudge_X9_promptOf : GoodIn wsX9_byJudge wsX9_promptOf := goodIn_r _ [10, 11, 12, 38, 39, 40, 41, 42, 43, 44, 45, 46, 47, 48, 49, 50, 51, 52, 53, 54, 55, 56, 57, 58, 59, 60, 61, 62, 63, 64, 65, 66] (by decide +kernel) (by decide +kernel)
set_option maxRecDepth 20000 in
theorem gX9_byJudge_X9_promptOf : GoodIn wsX9_byJudge (wsV RX9 148 RX9 yX9_promptOf wsX9_promptOf) := goodIn_app (goodIn_of _ (by decide +kernel)) ggX9_byJudge_X9_promptOf
set_option maxRecDepth 20000 in
theorem ggX9_byJudge_X9_markOf : GoodIn wsX9_byJudge wsX9_markOf := goodIn_r _ [16, 17, 18, 19, 20, 21, 22, 9, 23, 24, 25, 26, 27, 28, 29, 30, 31, 32, 33, 34, 35, 36, 37, 38, 39, 40, 41, 42, 43, 44, 45, 46, 47, 48, 49, 50, 51, 52, 53, 54, 55, 56, 57, 58, 59, 60, 61, 62, 63, 64, 65, 66] (by decide +kernel) (by decide +kernel)
set_option maxRecDepth 20000 in
theorem gX9_byJudge_X9_markOf : GoodIn wsX9_byJudge (wsV RX9 152 RX9 yX9_markOf wsX9_markOf) := goodIn_app (goodIn_of _ (by decide +kernel)) ggX9_byJudge_X9_markOf
theorem dX9_byJudge_0 : decode cX9_byJudge 0 = .ok (.aload_n 0, 1) := by decide +kernel
theorem dX9_byJudge_1 : decode cX9_byJudge 1 = .ok (.iload_n 1, 1) := by decide +kernel
theorem dX9_byJudge_2 : decode cX9_byJudge 2 = .ok (.iload_n 2, 1) := by decide +kernel
theorem dX9_byJudge_3 : decode cX9_byJudge 3 = .ok (.bipush 10, 2) := by decide +kernel
theorem dX9_byJudge_5 : decode cX9_byJudge 5 = .ok (.irem, 1) := by decide +kernel
theorem dX9_byJudge_6 : decode cX9_byJudge 6 = .ok (.iconst 2, 1) := by decide +kernel
theorem dX9_byJudge_7 : decode cX9_byJudge 7 = .ok (.idiv, 1) := by decide +kernel
theorem dX9_byJudge_8 : decode cX9_byJudge 8 = .ok (.invokevirtual 148, 3) := by decide +kernel
theorem dX9_byJudge_11 : decode cX9_byJudge 11 = .ok (.istore 4, 2) := by decide +kernel
theorem dX9_byJudge_13 : decode cX9_byJudge 13 = .ok (.fconst 0, 1) := by decide +kernel
theorem dX9_byJudge_14 : decode cX9_byJudge 14 = .ok (.fstore 5, 2) := by decide +kernel
theorem dX9_byJudge_16 : decode cX9_byJudge 16 = .ok (.iconst 0, 1) := by decide +kernel
theorem dX9_byJudge_17 : decode cX9_byJudge 17 = .ok (.istore 6, 2) := by decide +kernel
theorem dX9_byJudge_19 : decode cX9_byJudge 19 = .ok (.iload 6, 2) := by decide +kernel
theorem dX9_byJudge_21 : decode cX9_byJudge 21 = .ok (.iconst 4, 1) := by decide +kernel
theorem dX9_byJudge_22 : decode cX9_byJudge 22 = .ok (.if_icmp .ge 86, 3) := by decide +kernel
theorem dX9_byJudge_25 : decode cX9_byJudge 25 = .ok (.aload_n 0, 1) := by decide +kernel
theorem dX9_byJudge_26 : decode cX9_byJudge 26 = .ok (.getfield 31, 3) := by decide +kernel
theorem dX9_byJudge_29 : decode cX9_byJudge 29 = .ok (.iconst 4, 1) := by decide +kernel
theorem dX9_byJudge_30 : decode cX9_byJudge 30 = .ok (.iload_n 3, 1) := by decide +kernel
theorem dX9_byJudge_31 : decode cX9_byJudge 31 = .ok (.imul, 1) := by decide +kernel
theorem dX9_byJudge_32 : decode cX9_byJudge 32 = .ok (.iload 6, 2) := by decide +kernel
theorem dX9_byJudge_34 : decode cX9_byJudge 34 = .ok (.iadd, 1) := by decide +kernel
theorem dX9_byJudge_35 : decode cX9_byJudge 35 = .ok (.iaload, 1) := by decide +kernel
theorem dX9_byJudge_36 : decode cX9_byJudge 36 = .ok (.istore 7, 2) := by decide +kernel
theorem dX9_byJudge_38 : decode cX9_byJudge 38 = .ok (.iload 7, 2) := by decide +kernel
theorem dX9_byJudge_40 : decode cX9_byJudge 40 = .ok (.iconst (-1), 1) := by decide +kernel
theorem dX9_byJudge_41 : decode cX9_byJudge 41 = .ok (.if_icmp .eq 61, 3) := by decide +kernel
theorem dX9_byJudge_44 : decode cX9_byJudge 44 = .ok (.iload 7, 2) := by decide +kernel
theorem dX9_byJudge_46 : decode cX9_byJudge 46 = .ok (.aload_n 0, 1) := by decide +kernel
theorem dX9_byJudge_47 : decode cX9_byJudge 47 = .ok (.getfield 58, 3) := by decide +kernel
theorem dX9_byJudge_50 : decode cX9_byJudge 50 = .ok (.iload_n 1, 1) := by decide +kernel
theorem dX9_byJudge_51 : decode cX9_byJudge 51 = .ok (.iaload, 1) := by decide +kernel
theorem dX9_byJudge_52 : decode cX9_byJudge 52 = .ok (.if_icmp .gt 50, 3) := by decide +kernel
theorem dX9_byJudge_55 : decode cX9_byJudge 55 = .ok (.aload_n 0, 1) := by decide +kernel
theorem dX9_byJudge_56 : decode cX9_byJudge 56 = .ok (.aload_n 0, 1) := by decide +kernel
theorem dX9_byJudge_57 : decode cX9_byJudge 57 = .ok (.getfield 77, 3) := by decide +kernel
theorem dX9_byJudge_60 : decode cX9_byJudge 60 = .ok (.bipush 32, 2) := by decide +kernel
theorem dX9_byJudge_62 : decode cX9_byJudge 62 = .ok (.iload_n 2, 1) := by decide +kernel
theorem dX9_byJudge_63 : decode cX9_byJudge 63 = .ok (.imul, 1) := by decide +kernel
theorem dX9_byJudge_64 : decode cX9_byJudge 64 = .ok (.aload_n 0, 1) := by decide +kernel
theorem dX9_byJudge_65 : decode cX9_byJudge 65 = .ok (.getfield 64, 3) := by decide +kernel
theorem dX9_byJudge_68 : decode cX9_byJudge 68 = .ok (.iload_n 2, 1) := by decide +kernel
theorem dX9_byJudge_69 : decode cX9_byJudge 69 = .ok (.iaload, 1) := by decide +kernel
theorem dX9_byJudge_70 : decode cX9_byJudge 70 = .ok (.iload 4, 2) := by decide +kernel
theorem dX9_byJudge_72 : decode cX9_byJudge 72 = .ok (.iload 6, 2) := by decide +kernel
theorem dX9_byJudge_74 : decode cX9_byJudge 74 = .ok (.aload_n 0, 1) := by decide +kernel
theorem dX9_byJudge_75 : decode cX9_byJudge 75 = .ok (.getfield 67, 3) := by decide +kernel
theorem dX9_byJudge_78 : decode cX9_byJudge 78 = .ok (.iload_n 2, 1) := by decide +kernel
theorem dX9_byJudge_79 : decode cX9_byJudge 79 = .ok (.iaload, 1) := by decide +kernel
theorem dX9_byJudge_80 : decode cX9_byJudge 80 = .ok (.invokevirtual 152, 3) := by decide +kernel
theorem dX9_byJudge_83 : decode cX9_byJudge 83 = .ok (.fstore 8, 2) := by decide +kernel
theorem dX9_byJudge_85 : decode cX9_byJudge 85 = .ok (.fload 8, 2) := by decide +kernel
theorem dX9_byJudge_87 : decode cX9_byJudge 87 = .ok (.fload 5, 2) := by decide +kernel
theorem dX9_byJudge_89 : decode cX9_byJudge 89 = .ok (.fcmp .l, 1) := by decide +kernel
theorem dX9_byJudge_90 : decode cX9_byJudge 90 = .ok (.ifCond .le 8, 3) := by decide +kernel
theorem dX9_byJudge_93 : decode cX9_byJudge 93 = .ok (.fload 8, 2) := by decide +kernel
theorem dX9_byJudge_95 : decode cX9_byJudge 95 = .ok (.goto 5, 3) := by decide +kernel
theorem dX9_byJudge_98 : decode cX9_byJudge 98 = .ok (.fload 5, 2) := by decide +kernel
theorem dX9_byJudge_100 : decode cX9_byJudge 100 = .ok (.fstore 5, 2) := by decide +kernel
theorem dX9_byJudge_102 : decode cX9_byJudge 102 = .ok (.iinc 6 1, 3) := by decide +kernel
theorem dX9_byJudge_105 : decode cX9_byJudge 105 = .ok (.goto (-86), 3) := by decide +kernel
theorem dX9_byJudge_108 : decode cX9_byJudge 108 = .ok (.fload 5, 2) := by decide +kernel
theorem dX9_byJudge_110 : decode cX9_byJudge 110 = .ok (.freturn, 1) := by decide +kernel
set_option maxRecDepth 20000 in
theorem ggX9_byAll_X9_byJudge : GoodIn wsX9_byAll wsX9_byJudge := goodIn_r _ [7, 8, 9, 10, 11, 12, 13, 14, 15, 6, 16, 17, 18, 19, 20, 21, 22, 23, 24, 25, 26, 27, 28, 29, 30, 31, 32, 33, 34, 35, 36, 37, 38, 39, 40, 41, 42, 43, 44, 45, 46, 47, 48, 49, 50, 51, 52, 53, 54, 55, 56, 57, 58, 59, 60, 61, 62, 63, 64, 65, 66, 67, 68, 69, 70, 71, 72] (by decide +kernel) (by decide +kernel)
set_option maxRecDepth 20000 in
theorem gX9_byAll_X9_byJudge : GoodIn wsX9_byAll (wsV RX9 156 RX9 yX9_byJudge wsX9_byJudge) := goodIn_app (goodIn_of _ (by decide +kernel)) ggX9_byAll_X9_byJudge
theorem dX9_byAll_0 : decode cX9_byAll 0 = .ok (.aload_n 0, 1) := by decide +kernel
theorem dX9_byAll_1 : decode cX9_byAll 1 = .ok (.iload_n 1, 1) := by decide +kernel
theorem dX9_byAll_2 : decode cX9_byAll 2 = .ok (.iload_n 2, 1) := by decide +kernel
theorem dX9_byAll_3 : decode cX9_byAll 3 = .ok (.aload_n 0, 1) := by decide +kernel
theorem dX9_byAll_4 : decode cX9_byAll 4 = .ok (.getfield 40, 3) := by decide +kernel
theorem dX9_byAll_7 : decode cX9_byAll 7 = .ok (.iload_n 1, 1) := by decide +kernel
theorem dX9_byAll_8 : decode cX9_byAll 8 = .ok (.iaload, 1) := by decide +kernel
theorem dX9_byAll_9 : decode cX9_byAll 9 = .ok (.invokevirtual 156, 3) := by decide +kernel
theorem dX9_byAll_12 : decode cX9_byAll 12 = .ok (.fstore_n 3, 1) := by decide +kernel
theorem dX9_byAll_13 : decode cX9_byAll 13 = .ok (.aload_n 0, 1) := by decide +kernel
theorem dX9_byAll_14 : decode cX9_byAll 14 = .ok (.getfield 43, 3) := by decide +kernel
theorem dX9_byAll_17 : decode cX9_byAll 17 = .ok (.iload_n 1, 1) := by decide +kernel
theorem dX9_byAll_18 : decode cX9_byAll 18 = .ok (.iaload, 1) := by decide +kernel
theorem dX9_byAll_19 : decode cX9_byAll 19 = .ok (.iconst (-1), 1) := by decide +kernel
theorem dX9_byAll_20 : decode cX9_byAll 20 = .ok (.if_icmp .ne 7, 3) := by decide +kernel
theorem dX9_byAll_23 : decode cX9_byAll 23 = .ok (.fload_n 3, 1) := by decide +kernel
theorem dX9_byAll_24 : decode cX9_byAll 24 = .ok (.goto 19, 3) := by decide +kernel
theorem dX9_byAll_27 : decode cX9_byAll 27 = .ok (.fload_n 3, 1) := by decide +kernel
theorem dX9_byAll_28 : decode cX9_byAll 28 = .ok (.aload_n 0, 1) := by decide +kernel
theorem dX9_byAll_29 : decode cX9_byAll 29 = .ok (.iload_n 1, 1) := by decide +kernel
theorem dX9_byAll_30 : decode cX9_byAll 30 = .ok (.iload_n 2, 1) := by decide +kernel
theorem dX9_byAll_31 : decode cX9_byAll 31 = .ok (.aload_n 0, 1) := by decide +kernel
theorem dX9_byAll_32 : decode cX9_byAll 32 = .ok (.getfield 43, 3) := by decide +kernel
theorem dX9_byAll_35 : decode cX9_byAll 35 = .ok (.iload_n 1, 1) := by decide +kernel
theorem dX9_byAll_36 : decode cX9_byAll 36 = .ok (.iaload, 1) := by decide +kernel
theorem dX9_byAll_37 : decode cX9_byAll 37 = .ok (.invokevirtual 156, 3) := by decide +kernel
theorem dX9_byAll_40 : decode cX9_byAll 40 = .ok (.fadd, 1) := by decide +kernel
theorem dX9_byAll_41 : decode cX9_byAll 41 = .ok (.fconst 2, 1) := by decide +kernel
theorem dX9_byAll_42 : decode cX9_byAll 42 = .ok (.fdiv, 1) := by decide +kernel
theorem dX9_byAll_43 : decode cX9_byAll 43 = .ok (.freturn, 1) := by decide +kernel
set_option maxRecDepth 20000 in
theorem ggX9_roundTo_X9_byAll : GoodIn wsX9_roundTo wsX9_byAll := goodIn_r _ [7, 8, 9, 10, 11, 12, 6, 13, 14, 15, 16, 17, 18, 19, 20, 21, 22, 23, 24, 25, 26, 27, 28, 29, 30, 31, 32, 33, 34, 35, 36, 37, 38, 39, 40, 41, 42, 43, 44, 45, 46, 47, 48, 49, 50, 51, 52, 53, 54, 55, 56, 57, 58, 59, 60, 61, 62, 63, 64, 65, 66, 67, 68, 69, 70, 71, 72, 73, 74, 75, 76, 77, 78] (by decide +kernel) (by decide +kernel)
set_option maxRecDepth 20000 in
theorem gX9_roundTo_X9_byAll : GoodIn wsX9_roundTo (wsV RX9 160 RX9 yX9_byAll wsX9_byAll) := goodIn_app (goodIn_of _ (by decide +kernel)) ggX9_roundTo_X9_byAll
theorem dX9_roundTo_0 : decode cX9_roundTo 0 = .ok (.bipush 10, 2) := by decide +kernel
theorem dX9_roundTo_2 : decode cX9_roundTo 2 = .ok (.iload_n 1, 1) := by decide +kernel
theorem dX9_roundTo_3 : decode cX9_roundTo 3 = .ok (.imul, 1) := by decide +kernel
theorem dX9_roundTo_4 : decode cX9_roundTo 4 = .ok (.iconst 2, 1) := by decide +kernel
theorem dX9_roundTo_5 : decode cX9_roundTo 5 = .ok (.iload_n 2, 1) := by decide +kernel
theorem dX9_roundTo_6 : decode cX9_roundTo 6 = .ok (.imul, 1) := by decide +kernel
theorem dX9_roundTo_7 : decode cX9_roundTo 7 = .ok (.iadd, 1) := by decide +kernel
theorem dX9_roundTo_8 : decode cX9_roundTo 8 = .ok (.istore_n 3, 1) := by decide +kernel
theorem dX9_roundTo_9 : decode cX9_roundTo 9 = .ok (.iconst 2, 1) := by decide +kernel
theorem dX9_roundTo_10 : decode cX9_roundTo 10 = .ok (.iload_n 2, 1) := by decide +kernel
theorem dX9_roundTo_11 : decode cX9_roundTo 11 = .ok (.imul, 1) := by decide +kernel
theorem dX9_roundTo_12 : decode cX9_roundTo 12 = .ok (.iconst 1, 1) := by decide +kernel
theorem dX9_roundTo_13 : decode cX9_roundTo 13 = .ok (.iadd, 1) := by decide +kernel
theorem dX9_roundTo_14 : decode cX9_roundTo 14 = .ok (.aload_n 0, 1) := by decide +kernel
theorem dX9_roundTo_15 : decode cX9_roundTo 15 = .ok (.getfield 61, 3) := by decide +kernel
theorem dX9_roundTo_18 : decode cX9_roundTo 18 = .ok (.iload_n 1, 1) := by decide +kernel
theorem dX9_roundTo_19 : decode cX9_roundTo 19 = .ok (.iaload, 1) := by decide +kernel
theorem dX9_roundTo_20 : decode cX9_roundTo 20 = .ok (.if_icmp .lt 5, 3) := by decide +kernel
theorem dX9_roundTo_23 : decode cX9_roundTo 23 = .ok (.iconst 0, 1) := by decide +kernel
theorem dX9_roundTo_24 : decode cX9_roundTo 24 = .ok (.ireturn, 1) := by decide +kernel
theorem dX9_roundTo_25 : decode cX9_roundTo 25 = .ok (.aload_n 0, 1) := by decide +kernel
theorem dX9_roundTo_26 : decode cX9_roundTo 26 = .ok (.getfield 74, 3) := by decide +kernel
theorem dX9_roundTo_29 : decode cX9_roundTo 29 = .ok (.iload_n 3, 1) := by decide +kernel
theorem dX9_roundTo_30 : decode cX9_roundTo 30 = .ok (.baload, 1) := by decide +kernel
theorem dX9_roundTo_31 : decode cX9_roundTo 31 = .ok (.ifCond .ne 14, 3) := by decide +kernel
theorem dX9_roundTo_34 : decode cX9_roundTo 34 = .ok (.aload_n 0, 1) := by decide +kernel
theorem dX9_roundTo_35 : decode cX9_roundTo 35 = .ok (.getfield 74, 3) := by decide +kernel
theorem dX9_roundTo_38 : decode cX9_roundTo 38 = .ok (.iload_n 3, 1) := by decide +kernel
theorem dX9_roundTo_39 : decode cX9_roundTo 39 = .ok (.iconst 1, 1) := by decide +kernel
theorem dX9_roundTo_40 : decode cX9_roundTo 40 = .ok (.iadd, 1) := by decide +kernel
theorem dX9_roundTo_41 : decode cX9_roundTo 41 = .ok (.baload, 1) := by decide +kernel
theorem dX9_roundTo_42 : decode cX9_roundTo 42 = .ok (.ifCond .eq 42, 3) := by decide +kernel
theorem dX9_roundTo_45 : decode cX9_roundTo 45 = .ok (.aload_n 0, 1) := by decide +kernel
theorem dX9_roundTo_46 : decode cX9_roundTo 46 = .ok (.getfield 74, 3) := by decide +kernel
theorem dX9_roundTo_49 : decode cX9_roundTo 49 = .ok (.iload_n 3, 1) := by decide +kernel
theorem dX9_roundTo_50 : decode cX9_roundTo 50 = .ok (.baload, 1) := by decide +kernel
theorem dX9_roundTo_51 : decode cX9_roundTo 51 = .ok (.ifCond .eq 18, 3) := by decide +kernel
theorem dX9_roundTo_54 : decode cX9_roundTo 54 = .ok (.aload_n 0, 1) := by decide +kernel
theorem dX9_roundTo_55 : decode cX9_roundTo 55 = .ok (.getfield 74, 3) := by decide +kernel
theorem dX9_roundTo_58 : decode cX9_roundTo 58 = .ok (.iload_n 3, 1) := by decide +kernel
theorem dX9_roundTo_59 : decode cX9_roundTo 59 = .ok (.iconst 1, 1) := by decide +kernel
theorem dX9_roundTo_60 : decode cX9_roundTo 60 = .ok (.iadd, 1) := by decide +kernel
theorem dX9_roundTo_61 : decode cX9_roundTo 61 = .ok (.baload, 1) := by decide +kernel
theorem dX9_roundTo_62 : decode cX9_roundTo 62 = .ok (.ifCond .eq 7, 3) := by decide +kernel
theorem dX9_roundTo_65 : decode cX9_roundTo 65 = .ok (.iconst 0, 1) := by decide +kernel
theorem dX9_roundTo_66 : decode cX9_roundTo 66 = .ok (.goto 17, 3) := by decide +kernel
theorem dX9_roundTo_69 : decode cX9_roundTo 69 = .ok (.aload_n 0, 1) := by decide +kernel
theorem dX9_roundTo_70 : decode cX9_roundTo 70 = .ok (.getfield 74, 3) := by decide +kernel
theorem dX9_roundTo_73 : decode cX9_roundTo 73 = .ok (.iload_n 3, 1) := by decide +kernel
theorem dX9_roundTo_74 : decode cX9_roundTo 74 = .ok (.baload, 1) := by decide +kernel
theorem dX9_roundTo_75 : decode cX9_roundTo 75 = .ok (.ifCond .eq 7, 3) := by decide +kernel
theorem dX9_roundTo_78 : decode cX9_roundTo 78 = .ok (.iconst 2, 1) := by decide +kernel
theorem dX9_roundTo_79 : decode cX9_roundTo 79 = .ok (.goto 4, 3) := by decide +kernel
theorem dX9_roundTo_82 : decode cX9_roundTo 82 = .ok (.iconst 1, 1) := by decide +kernel
theorem dX9_roundTo_83 : decode cX9_roundTo 83 = .ok (.ireturn, 1) := by decide +kernel
theorem dX9_roundTo_84 : decode cX9_roundTo 84 = .ok (.aload_n 0, 1) := by decide +kernel
theorem dX9_roundTo_85 : decode cX9_roundTo 85 = .ok (.iload_n 1, 1) := by decide +kernel
theorem dX9_roundTo_86 : decode cX9_roundTo 86 = .ok (.iload_n 3, 1) := by decide +kernel
theorem dX9_roundTo_87 : decode cX9_roundTo 87 = .ok (.invokevirtual 160, 3) := by decide +kernel
theorem dX9_roundTo_90 : decode cX9_roundTo 90 = .ok (.fstore 4, 2) := by decide +kernel
theorem dX9_roundTo_92 : decode cX9_roundTo 92 = .ok (.aload_n 0, 1) := by decide +kernel
theorem dX9_roundTo_93 : decode cX9_roundTo 93 = .ok (.iload_n 1, 1) := by decide +kernel
theorem dX9_roundTo_94 : decode cX9_roundTo 94 = .ok (.iload_n 3, 1) := by decide +kernel
theorem dX9_roundTo_95 : decode cX9_roundTo 95 = .ok (.iconst 1, 1) := by decide +kernel
theorem dX9_roundTo_96 : decode cX9_roundTo 96 = .ok (.iadd, 1) := by decide +kernel
theorem dX9_roundTo_97 : decode cX9_roundTo 97 = .ok (.invokevirtual 160, 3) := by decide +kernel
theorem dX9_roundTo_100 : decode cX9_roundTo 100 = .ok (.fstore 5, 2) := by decide +kernel
theorem dX9_roundTo_102 : decode cX9_roundTo 102 = .ok (.fload 4, 2) := by decide +kernel
theorem dX9_roundTo_104 : decode cX9_roundTo 104 = .ok (.fload 5, 2) := by decide +kernel
theorem dX9_roundTo_106 : decode cX9_roundTo 106 = .ok (.fcmp .l, 1) := by decide +kernel
theorem dX9_roundTo_107 : decode cX9_roundTo 107 = .ok (.ifCond .le 7, 3) := by decide +kernel
theorem dX9_roundTo_110 : decode cX9_roundTo 110 = .ok (.iconst 1, 1) := by decide +kernel
theorem dX9_roundTo_111 : decode cX9_roundTo 111 = .ok (.goto 16, 3) := by decide +kernel
theorem dX9_roundTo_114 : decode cX9_roundTo 114 = .ok (.fload 5, 2) := by decide +kernel
theorem dX9_roundTo_116 : decode cX9_roundTo 116 = .ok (.fload 4, 2) := by decide +kernel
theorem dX9_roundTo_118 : decode cX9_roundTo 118 = .ok (.fcmp .l, 1) := by decide +kernel
theorem dX9_roundTo_119 : decode cX9_roundTo 119 = .ok (.ifCond .le 7, 3) := by decide +kernel
theorem dX9_roundTo_122 : decode cX9_roundTo 122 = .ok (.iconst 2, 1) := by decide +kernel
theorem dX9_roundTo_123 : decode cX9_roundTo 123 = .ok (.goto 4, 3) := by decide +kernel
theorem dX9_roundTo_126 : decode cX9_roundTo 126 = .ok (.iconst 0, 1) := by decide +kernel
theorem dX9_roundTo_127 : decode cX9_roundTo 127 = .ok (.ireturn, 1) := by decide +kernel
set_option maxRecDepth 20000 in
theorem ggX9_roundsTo_X9_roundTo : GoodIn wsX9_roundsTo wsX9_roundTo := goodIn_r _ [6, 7, 8, 9, 10, 11, 5, 12, 13, 14, 15, 16, 17, 18, 19, 20, 21, 22, 23, 24, 25, 26, 27, 28, 29, 30, 31, 32, 33, 34, 35, 36, 37, 38, 39, 40, 41, 42, 43, 44, 45, 46, 47, 48, 49, 50, 51, 52, 53, 54, 55, 56, 57, 58, 59, 60, 61, 62, 63, 64, 65, 66, 67, 68, 69, 70, 71, 72, 73, 74, 75, 76, 77, 78, 79, 80, 81, 82, 83] (by decide +kernel) (by decide +kernel)
set_option maxRecDepth 20000 in
theorem gX9_roundsTo_X9_roundTo : GoodIn wsX9_roundsTo (wsV RX9 163 RX9 yX9_roundTo wsX9_roundTo) := goodIn_app (goodIn_of _ (by decide +kernel)) ggX9_roundsTo_X9_roundTo
theorem dX9_roundsTo_0 : decode cX9_roundsTo 0 = .ok (.iconst 0, 1) := by decide +kernel
theorem dX9_roundsTo_1 : decode cX9_roundsTo 1 = .ok (.istore_n 3, 1) := by decide +kernel
theorem dX9_roundsTo_2 : decode cX9_roundsTo 2 = .ok (.iconst 0, 1) := by decide +kernel
theorem dX9_roundsTo_3 : decode cX9_roundsTo 3 = .ok (.istore 4, 2) := by decide +kernel
theorem dX9_roundsTo_5 : decode cX9_roundsTo 5 = .ok (.iload 4, 2) := by decide +kernel
theorem dX9_roundsTo_7 : decode cX9_roundsTo 7 = .ok (.aload_n 0, 1) := by decide +kernel
theorem dX9_roundsTo_8 : decode cX9_roundsTo 8 = .ok (.getfield 49, 3) := by decide +kernel
theorem dX9_roundsTo_11 : decode cX9_roundsTo 11 = .ok (.iload_n 1, 1) := by decide +kernel
theorem dX9_roundsTo_12 : decode cX9_roundsTo 12 = .ok (.iaload, 1) := by decide +kernel
theorem dX9_roundsTo_13 : decode cX9_roundsTo 13 = .ok (.if_icmp .ge 28, 3) := by decide +kernel
theorem dX9_roundsTo_16 : decode cX9_roundsTo 16 = .ok (.iload_n 3, 1) := by decide +kernel
theorem dX9_roundsTo_17 : decode cX9_roundsTo 17 = .ok (.aload_n 0, 1) := by decide +kernel
theorem dX9_roundsTo_18 : decode cX9_roundsTo 18 = .ok (.iload_n 1, 1) := by decide +kernel
theorem dX9_roundsTo_19 : decode cX9_roundsTo 19 = .ok (.iload 4, 2) := by decide +kernel
theorem dX9_roundsTo_21 : decode cX9_roundsTo 21 = .ok (.invokevirtual 163, 3) := by decide +kernel
theorem dX9_roundsTo_24 : decode cX9_roundsTo 24 = .ok (.iload_n 2, 1) := by decide +kernel
theorem dX9_roundsTo_25 : decode cX9_roundsTo 25 = .ok (.if_icmp .ne 7, 3) := by decide +kernel
theorem dX9_roundsTo_28 : decode cX9_roundsTo 28 = .ok (.iconst 1, 1) := by decide +kernel
theorem dX9_roundsTo_29 : decode cX9_roundsTo 29 = .ok (.goto 4, 3) := by decide +kernel
theorem dX9_roundsTo_32 : decode cX9_roundsTo 32 = .ok (.iconst 0, 1) := by decide +kernel
theorem dX9_roundsTo_33 : decode cX9_roundsTo 33 = .ok (.iadd, 1) := by decide +kernel
theorem dX9_roundsTo_34 : decode cX9_roundsTo 34 = .ok (.istore_n 3, 1) := by decide +kernel
theorem dX9_roundsTo_35 : decode cX9_roundsTo 35 = .ok (.iinc 4 1, 3) := by decide +kernel
theorem dX9_roundsTo_38 : decode cX9_roundsTo 38 = .ok (.goto (-33), 3) := by decide +kernel
theorem dX9_roundsTo_41 : decode cX9_roundsTo 41 = .ok (.iload_n 3, 1) := by decide +kernel
theorem dX9_roundsTo_42 : decode cX9_roundsTo 42 = .ok (.ireturn, 1) := by decide +kernel
set_option maxRecDepth 20000 in
theorem ggX9_winner_X9_isOver : GoodIn wsX9_winner wsX9_isOver := goodIn_r _ [7, 8, 9, 65, 66, 67, 68, 69, 70, 71, 72, 73, 74, 75, 76, 77, 78, 79, 80, 81, 82, 83, 84, 85, 86, 87, 88, 89, 90, 91, 92, 93] (by decide +kernel) (by decide +kernel)
set_option maxRecDepth 20000 in
theorem gX9_winner_X9_isOver : GoodIn wsX9_winner (wsV RX9 111 RX9 yX9_isOver wsX9_isOver) := goodIn_app (goodIn_of _ (by decide +kernel)) ggX9_winner_X9_isOver
set_option maxRecDepth 20000 in
theorem ggX9_winner_X9_roundsTo : GoodIn wsX9_winner wsX9_roundsTo := goodIn_r _ [13, 9, 14, 15, 16, 6, 17, 8, 18, 19, 20, 21, 22, 23, 24, 25, 26, 27, 28, 29, 30, 31, 32, 33, 34, 35, 36, 37, 38, 39, 40, 41, 42, 43, 44, 45, 46, 47, 48, 49, 50, 51, 52, 53, 54, 55, 56, 57, 58, 59, 60, 61, 62, 63, 64, 65, 66, 67, 68, 69, 70, 71, 72, 73, 74, 75, 76, 77, 78, 79, 80, 81, 82, 83, 84, 85, 86, 87, 88, 89, 90, 91, 92, 93] (by decide +kernel) (by decide +kernel)
set_option maxRecDepth 20000 in
theorem gX9_winner_X9_roundsTo : GoodIn wsX9_winner (wsV RX9 166 RX9 yX9_roundsTo wsX9_roundsTo) := goodIn_app (goodIn_of _ (by decide +kernel)) ggX9_winner_X9_roundsTo
theorem dX9_winner_0 : decode cX9_winner 0 = .ok (.aload_n 0, 1) := by decide +kernel
theorem dX9_winner_1 : decode cX9_winner 1 = .ok (.iload_n 1, 1) := by decide +kernel
theorem dX9_winner_2 : decode cX9_winner 2 = .ok (.invokevirtual 111, 3) := by decide +kernel
theorem dX9_winner_5 : decode cX9_winner 5 = .ok (.ifCond .ne 5, 3) := by decide +kernel
theorem dX9_winner_8 : decode cX9_winner 8 = .ok (.iconst (-1), 1) := by decide +kernel
theorem dX9_winner_9 : decode cX9_winner 9 = .ok (.ireturn, 1) := by decide +kernel
theorem dX9_winner_10 : decode cX9_winner 10 = .ok (.aload_n 0, 1) := by decide +kernel
theorem dX9_winner_11 : decode cX9_winner 11 = .ok (.iload_n 1, 1) := by decide +kernel
theorem dX9_winner_12 : decode cX9_winner 12 = .ok (.iconst 1, 1) := by decide +kernel
theorem dX9_winner_13 : decode cX9_winner 13 = .ok (.invokevirtual 166, 3) := by decide +kernel
theorem dX9_winner_16 : decode cX9_winner 16 = .ok (.aload_n 0, 1) := by decide +kernel
theorem dX9_winner_17 : decode cX9_winner 17 = .ok (.iload_n 1, 1) := by decide +kernel
theorem dX9_winner_18 : decode cX9_winner 18 = .ok (.iconst 2, 1) := by decide +kernel
theorem dX9_winner_19 : decode cX9_winner 19 = .ok (.invokevirtual 166, 3) := by decide +kernel
theorem dX9_winner_22 : decode cX9_winner 22 = .ok (.isub, 1) := by decide +kernel
theorem dX9_winner_23 : decode cX9_winner 23 = .ok (.istore_n 2, 1) := by decide +kernel
theorem dX9_winner_24 : decode cX9_winner 24 = .ok (.iload_n 2, 1) := by decide +kernel
theorem dX9_winner_25 : decode cX9_winner 25 = .ok (.ifCond .le 12, 3) := by decide +kernel
theorem dX9_winner_28 : decode cX9_winner 28 = .ok (.aload_n 0, 1) := by decide +kernel
theorem dX9_winner_29 : decode cX9_winner 29 = .ok (.getfield 34, 3) := by decide +kernel
theorem dX9_winner_32 : decode cX9_winner 32 = .ok (.iload_n 1, 1) := by decide +kernel
theorem dX9_winner_33 : decode cX9_winner 33 = .ok (.iaload, 1) := by decide +kernel
theorem dX9_winner_34 : decode cX9_winner 34 = .ok (.goto 17, 3) := by decide +kernel
theorem dX9_winner_37 : decode cX9_winner 37 = .ok (.iload_n 2, 1) := by decide +kernel
theorem dX9_winner_38 : decode cX9_winner 38 = .ok (.ifCond .ge 12, 3) := by decide +kernel
theorem dX9_winner_41 : decode cX9_winner 41 = .ok (.aload_n 0, 1) := by decide +kernel
theorem dX9_winner_42 : decode cX9_winner 42 = .ok (.getfield 37, 3) := by decide +kernel
theorem dX9_winner_45 : decode cX9_winner 45 = .ok (.iload_n 1, 1) := by decide +kernel
theorem dX9_winner_46 : decode cX9_winner 46 = .ok (.iaload, 1) := by decide +kernel
theorem dX9_winner_47 : decode cX9_winner 47 = .ok (.goto 4, 3) := by decide +kernel
theorem dX9_winner_50 : decode cX9_winner 50 = .ok (.iconst (-1), 1) := by decide +kernel
theorem dX9_winner_51 : decode cX9_winner 51 = .ok (.ireturn, 1) := by decide +kernel
set_option maxRecDepth 20000 in
theorem ggX9_appeal_X9_isDuel : GoodIn wsX9_appeal wsX9_isDuel := goodIn_r _ [7, 8, 9, 10, 6, 11, 82, 83, 84, 85, 86, 87, 88, 89, 90, 91, 92, 93, 94, 95, 96, 97, 98, 99, 100, 101, 102, 103, 104, 105, 106, 107, 108, 109, 110] (by decide +kernel) (by decide +kernel)
set_option maxRecDepth 20000 in
theorem gX9_appeal_X9_isDuel : GoodIn wsX9_appeal (wsV RX9 108 RX9 yX9_isDuel wsX9_isDuel) := goodIn_app (goodIn_of _ (by decide +kernel)) ggX9_appeal_X9_isDuel
set_option maxRecDepth 20000 in
theorem ggX9_appeal_X9_in : GoodIn wsX9_appeal wsX9_in := goodIn_r _ [11] (by decide +kernel) (by decide +kernel)
set_option maxRecDepth 20000 in
theorem gX9_appeal_X9_in : GoodIn wsX9_appeal (va_wsS RX9 87 yX9_in wsX9_in) := goodIn_app (goodIn_of _ (by decide +kernel)) ggX9_appeal_X9_in
set_option maxRecDepth 20000 in
theorem ggX9_appeal_X9_isOver : GoodIn wsX9_appeal wsX9_isOver := goodIn_r _ [15, 16, 17, 82, 83, 84, 85, 86, 87, 88, 89, 90, 91, 92, 93, 94, 95, 96, 97, 98, 99, 100, 101, 102, 103, 104, 105, 106, 107, 108, 109, 110] (by decide +kernel) (by decide +kernel)
set_option maxRecDepth 20000 in
theorem gX9_appeal_X9_isOver : GoodIn wsX9_appeal (wsV RX9 111 RX9 yX9_isOver wsX9_isOver) := goodIn_app (goodIn_of _ (by decide +kernel)) ggX9_appeal_X9_isOver
set_option maxRecDepth 20000 in
theorem ggX9_appeal_X9_goes : GoodIn wsX9_appeal wsX9_goes := goodIn_r _ [21, 22, 82, 83, 84, 85, 86, 87, 88, 89, 90, 91, 92, 93, 94, 95, 96, 97, 98, 99, 100, 101, 102, 103, 104, 105, 106, 107, 108, 109, 110] (by decide +kernel) (by decide +kernel)
set_option maxRecDepth 20000 in
theorem gX9_appeal_X9_goes : GoodIn wsX9_appeal (wsV RX9 97 RX9 yX9_goes wsX9_goes) := goodIn_app (goodIn_of _ (by decide +kernel)) ggX9_appeal_X9_goes
set_option maxRecDepth 20000 in
theorem ggX9_appeal_X9_winner : GoodIn wsX9_appeal wsX9_winner := goodIn_r _ [26, 27, 28, 12, 13, 14, 6, 15, 16, 17, 29, 30, 31, 32, 33, 34, 35, 36, 37, 38, 39, 40, 41, 2, 1, 42, 43, 44, 45, 46, 47, 48, 49, 50, 51, 52, 53, 54, 55, 56, 57, 58, 59, 60, 61, 62, 63, 64, 65, 66, 67, 68, 69, 70, 71, 72, 73, 74, 75, 76, 77, 78, 79, 80, 81, 82, 83, 84, 85, 86, 87, 88, 89, 90, 91, 92, 93, 94, 95, 96, 97, 98, 99, 100, 101, 102, 103, 104, 105, 106, 107, 108, 109, 110] (by decide +kernel) (by decide +kernel)
set_option maxRecDepth 20000 in
theorem gX9_appeal_X9_winner : GoodIn wsX9_appeal (wsV RX9 169 RX9 yX9_winner wsX9_winner) := goodIn_app (goodIn_of _ (by decide +kernel)) ggX9_appeal_X9_winner
theorem dX9_appeal_0 : decode cX9_appeal 0 = .ok (.aload_n 0, 1) := by decide +kernel
theorem dX9_appeal_1 : decode cX9_appeal 1 = .ok (.iload_n 1, 1) := by decide +kernel
theorem dX9_appeal_2 : decode cX9_appeal 2 = .ok (.invokevirtual 108, 3) := by decide +kernel
theorem dX9_appeal_5 : decode cX9_appeal 5 = .ok (.ifCond .eq 16, 3) := by decide +kernel
theorem dX9_appeal_8 : decode cX9_appeal 8 = .ok (.iload_n 2, 1) := by decide +kernel
theorem dX9_appeal_9 : decode cX9_appeal 9 = .ok (.iconst 0, 1) := by decide +kernel
theorem dX9_appeal_10 : decode cX9_appeal 10 = .ok (.iconst 3, 1) := by decide +kernel
theorem dX9_appeal_11 : decode cX9_appeal 11 = .ok (.invokestatic 87, 3) := by decide +kernel
theorem dX9_appeal_14 : decode cX9_appeal 14 = .ok (.ifCond .eq 7, 3) := by decide +kernel
theorem dX9_appeal_17 : decode cX9_appeal 17 = .ok (.iconst 1, 1) := by decide +kernel
theorem dX9_appeal_18 : decode cX9_appeal 18 = .ok (.goto 4, 3) := by decide +kernel
theorem dX9_appeal_21 : decode cX9_appeal 21 = .ok (.iconst 0, 1) := by decide +kernel
theorem dX9_appeal_22 : decode cX9_appeal 22 = .ok (.istore_n 3, 1) := by decide +kernel
theorem dX9_appeal_23 : decode cX9_appeal 23 = .ok (.aload_n 0, 1) := by decide +kernel
theorem dX9_appeal_24 : decode cX9_appeal 24 = .ok (.iload_n 3, 1) := by decide +kernel
theorem dX9_appeal_25 : decode cX9_appeal 25 = .ok (.iload_n 3, 1) := by decide +kernel
theorem dX9_appeal_26 : decode cX9_appeal 26 = .ok (.ifCond .eq 35, 3) := by decide +kernel
theorem dX9_appeal_29 : decode cX9_appeal 29 = .ok (.aload_n 0, 1) := by decide +kernel
theorem dX9_appeal_30 : decode cX9_appeal 30 = .ok (.iload_n 1, 1) := by decide +kernel
theorem dX9_appeal_31 : decode cX9_appeal 31 = .ok (.invokevirtual 111, 3) := by decide +kernel
theorem dX9_appeal_34 : decode cX9_appeal 34 = .ok (.ifCond .eq 27, 3) := by decide +kernel
theorem dX9_appeal_37 : decode cX9_appeal 37 = .ok (.aload_n 0, 1) := by decide +kernel
theorem dX9_appeal_38 : decode cX9_appeal 38 = .ok (.getfield 43, 3) := by decide +kernel
theorem dX9_appeal_41 : decode cX9_appeal 41 = .ok (.iload_n 1, 1) := by decide +kernel
theorem dX9_appeal_42 : decode cX9_appeal 42 = .ok (.iaload, 1) := by decide +kernel
theorem dX9_appeal_43 : decode cX9_appeal 43 = .ok (.iconst (-1), 1) := by decide +kernel
theorem dX9_appeal_44 : decode cX9_appeal 44 = .ok (.if_icmp .ne 17, 3) := by decide +kernel
theorem dX9_appeal_47 : decode cX9_appeal 47 = .ok (.aload_n 0, 1) := by decide +kernel
theorem dX9_appeal_48 : decode cX9_appeal 48 = .ok (.getfield 40, 3) := by decide +kernel
theorem dX9_appeal_51 : decode cX9_appeal 51 = .ok (.iload_n 1, 1) := by decide +kernel
theorem dX9_appeal_52 : decode cX9_appeal 52 = .ok (.iaload, 1) := by decide +kernel
theorem dX9_appeal_53 : decode cX9_appeal 53 = .ok (.iload_n 2, 1) := by decide +kernel
theorem dX9_appeal_54 : decode cX9_appeal 54 = .ok (.if_icmp .eq 7, 3) := by decide +kernel
theorem dX9_appeal_57 : decode cX9_appeal 57 = .ok (.iconst 1, 1) := by decide +kernel
theorem dX9_appeal_58 : decode cX9_appeal 58 = .ok (.goto 4, 3) := by decide +kernel
theorem dX9_appeal_61 : decode cX9_appeal 61 = .ok (.iconst 0, 1) := by decide +kernel
theorem dX9_appeal_62 : decode cX9_appeal 62 = .ok (.iconst 1, 1) := by decide +kernel
theorem dX9_appeal_63 : decode cX9_appeal 63 = .ok (.invokevirtual 97, 3) := by decide +kernel
theorem dX9_appeal_66 : decode cX9_appeal 66 = .ok (.ifCond .ne 5, 3) := by decide +kernel
theorem dX9_appeal_69 : decode cX9_appeal 69 = .ok (.iconst 0, 1) := by decide +kernel
theorem dX9_appeal_70 : decode cX9_appeal 70 = .ok (.ireturn, 1) := by decide +kernel
theorem dX9_appeal_71 : decode cX9_appeal 71 = .ok (.aload_n 0, 1) := by decide +kernel
theorem dX9_appeal_72 : decode cX9_appeal 72 = .ok (.getfield 43, 3) := by decide +kernel
theorem dX9_appeal_75 : decode cX9_appeal 75 = .ok (.iload_n 1, 1) := by decide +kernel
theorem dX9_appeal_76 : decode cX9_appeal 76 = .ok (.iload_n 2, 1) := by decide +kernel
theorem dX9_appeal_77 : decode cX9_appeal 77 = .ok (.iastore, 1) := by decide +kernel
theorem dX9_appeal_78 : decode cX9_appeal 78 = .ok (.aload_n 0, 1) := by decide +kernel
theorem dX9_appeal_79 : decode cX9_appeal 79 = .ok (.iload_n 1, 1) := by decide +kernel
theorem dX9_appeal_80 : decode cX9_appeal 80 = .ok (.invokevirtual 169, 3) := by decide +kernel
theorem dX9_appeal_83 : decode cX9_appeal 83 = .ok (.ireturn, 1) := by decide +kernel
set_option maxRecDepth 20000 in
theorem ggX9_prompt_X9_isDuel : GoodIn wsX9_prompt wsX9_isDuel := goodIn_r _ [6, 7, 8, 9, 5, 10, 22, 23, 24, 25, 26, 27, 28, 29, 30, 31, 32, 33, 34, 35, 36, 37, 38, 39, 40, 41, 42, 43, 44, 45, 46, 47, 48, 49, 50] (by decide +kernel) (by decide +kernel)
set_option maxRecDepth 20000 in
theorem gX9_prompt_X9_isDuel : GoodIn wsX9_prompt (wsV RX9 108 RX9 yX9_isDuel wsX9_isDuel) := goodIn_app (goodIn_of _ (by decide +kernel)) ggX9_prompt_X9_isDuel
set_option maxRecDepth 20000 in
theorem ggX9_prompt_X9_goes : GoodIn wsX9_prompt wsX9_goes := goodIn_r _ [14, 15, 22, 23, 24, 25, 26, 27, 28, 29, 30, 31, 32, 33, 34, 35, 36, 37, 38, 39, 40, 41, 42, 43, 44, 45, 46, 47, 48, 49, 50] (by decide +kernel) (by decide +kernel)
set_option maxRecDepth 20000 in
theorem gX9_prompt_X9_goes : GoodIn wsX9_prompt (wsV RX9 97 RX9 yX9_goes wsX9_goes) := goodIn_app (goodIn_of _ (by decide +kernel)) ggX9_prompt_X9_goes
set_option maxRecDepth 20000 in
theorem ggX9_prompt_X9_promptOf : GoodIn wsX9_prompt wsX9_promptOf := goodIn_r _ [19, 20, 21, 22, 23, 24, 25, 26, 27, 28, 29, 30, 31, 32, 33, 34, 35, 36, 37, 38, 39, 40, 41, 42, 43, 44, 45, 46, 47, 48, 49, 50] (by decide +kernel) (by decide +kernel)
set_option maxRecDepth 20000 in
theorem gX9_prompt_X9_promptOf : GoodIn wsX9_prompt (wsV RX9 148 RX9 yX9_promptOf wsX9_promptOf) := goodIn_app (goodIn_of _ (by decide +kernel)) ggX9_prompt_X9_promptOf
theorem dX9_prompt_0 : decode cX9_prompt 0 = .ok (.aload_n 0, 1) := by decide +kernel
theorem dX9_prompt_1 : decode cX9_prompt 1 = .ok (.iload_n 1, 1) := by decide +kernel
theorem dX9_prompt_2 : decode cX9_prompt 2 = .ok (.invokevirtual 108, 3) := by decide +kernel
