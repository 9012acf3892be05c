theorem dX9_rise_29 : decode cX9_rise 29 = .ok (.aload_n 0, 1) := by decide +kernel
theorem dX9_rise_30 : decode cX9_rise 30 = .ok (.getfield 22, 3) := by decide +kernel
theorem dX9_rise_33 : decode cX9_rise 33 = .ok (.iload_n 1, 1) := by decide +kernel
theorem dX9_rise_34 : decode cX9_rise 34 = .ok (.iaload, 1) := by decide +kernel
theorem dX9_rise_35 : decode cX9_rise 35 = .ok (.ireturn, 1) := by decide +kernel
set_option maxRecDepth 20000 in
theorem ggX9_style_X9_in : GoodIn wsX9_style wsX9_in := goodIn_r _ [5] (by decide +kernel) (by decide +kernel)
set_option maxRecDepth 20000 in
theorem gX9_style_X9_in : GoodIn wsX9_style (va_wsS RX9 87 yX9_in wsX9_in) := goodIn_app (goodIn_of _ (by decide +kernel)) ggX9_style_X9_in
set_option maxRecDepth 20000 in
theorem ggX9_style_X9_goes : GoodIn wsX9_style wsX9_goes := goodIn_r _ [9, 10, 11, 12, 13, 14, 15, 16, 17, 18, 19, 20, 21, 22, 23, 24, 25, 26, 27, 28, 29, 30, 31, 32, 33, 34, 35, 36, 37, 38, 39] (by decide +kernel) (by decide +kernel)
set_option maxRecDepth 20000 in
theorem gX9_style_X9_goes : GoodIn wsX9_style (wsV RX9 97 RX9 yX9_goes wsX9_goes) := goodIn_app (goodIn_of _ (by decide +kernel)) ggX9_style_X9_goes
theorem dX9_style_0 : decode cX9_style 0 = .ok (.aload_n 0, 1) := by decide +kernel
theorem dX9_style_1 : decode cX9_style 1 = .ok (.iload_n 1, 1) := by decide +kernel
theorem dX9_style_2 : decode cX9_style 2 = .ok (.iconst 0, 1) := by decide +kernel
theorem dX9_style_3 : decode cX9_style 3 = .ok (.iconst 3, 1) := by decide +kernel
theorem dX9_style_4 : decode cX9_style 4 = .ok (.invokestatic 87, 3) := by decide +kernel
theorem dX9_style_7 : decode cX9_style 7 = .ok (.iload_n 2, 1) := by decide +kernel
theorem dX9_style_8 : decode cX9_style 8 = .ok (.iconst 0, 1) := by decide +kernel
theorem dX9_style_9 : decode cX9_style 9 = .ok (.bipush 100, 2) := by decide +kernel
theorem dX9_style_11 : decode cX9_style 11 = .ok (.invokestatic 87, 3) := by decide +kernel
theorem dX9_style_14 : decode cX9_style 14 = .ok (.ifCond .eq 28, 3) := by decide +kernel
theorem dX9_style_17 : decode cX9_style 17 = .ok (.iload_n 3, 1) := by decide +kernel
theorem dX9_style_18 : decode cX9_style 18 = .ok (.iconst 0, 1) := by decide +kernel
theorem dX9_style_19 : decode cX9_style 19 = .ok (.bipush 100, 2) := by decide +kernel
theorem dX9_style_21 : decode cX9_style 21 = .ok (.invokestatic 87, 3) := by decide +kernel
theorem dX9_style_24 : decode cX9_style 24 = .ok (.ifCond .eq 18, 3) := by decide +kernel
theorem dX9_style_27 : decode cX9_style 27 = .ok (.iload 4, 2) := by decide +kernel
theorem dX9_style_29 : decode cX9_style 29 = .ok (.iconst 0, 1) := by decide +kernel
theorem dX9_style_30 : decode cX9_style 30 = .ok (.bipush 100, 2) := by decide +kernel
theorem dX9_style_32 : decode cX9_style 32 = .ok (.invokestatic 87, 3) := by decide +kernel
theorem dX9_style_35 : decode cX9_style 35 = .ok (.ifCond .eq 7, 3) := by decide +kernel
theorem dX9_style_38 : decode cX9_style 38 = .ok (.iconst 1, 1) := by decide +kernel
theorem dX9_style_39 : decode cX9_style 39 = .ok (.goto 4, 3) := by decide +kernel
theorem dX9_style_42 : decode cX9_style 42 = .ok (.iconst 0, 1) := by decide +kernel
theorem dX9_style_43 : decode cX9_style 43 = .ok (.iconst 1, 1) := by decide +kernel
theorem dX9_style_44 : decode cX9_style 44 = .ok (.invokevirtual 97, 3) := by decide +kernel
theorem dX9_style_47 : decode cX9_style 47 = .ok (.ifCond .eq 35, 3) := by decide +kernel
theorem dX9_style_50 : decode cX9_style 50 = .ok (.aload_n 0, 1) := by decide +kernel
theorem dX9_style_51 : decode cX9_style 51 = .ok (.getfield 28, 3) := by decide +kernel
theorem dX9_style_54 : decode cX9_style 54 = .ok (.iconst 3, 1) := by decide +kernel
theorem dX9_style_55 : decode cX9_style 55 = .ok (.iload_n 1, 1) := by decide +kernel
theorem dX9_style_56 : decode cX9_style 56 = .ok (.imul, 1) := by decide +kernel
theorem dX9_style_57 : decode cX9_style 57 = .ok (.iload_n 2, 1) := by decide +kernel
theorem dX9_style_58 : decode cX9_style 58 = .ok (.iastore, 1) := by decide +kernel
theorem dX9_style_59 : decode cX9_style 59 = .ok (.aload_n 0, 1) := by decide +kernel
theorem dX9_style_60 : decode cX9_style 60 = .ok (.getfield 28, 3) := by decide +kernel
theorem dX9_style_63 : decode cX9_style 63 = .ok (.iconst 3, 1) := by decide +kernel
theorem dX9_style_64 : decode cX9_style 64 = .ok (.iload_n 1, 1) := by decide +kernel
theorem dX9_style_65 : decode cX9_style 65 = .ok (.imul, 1) := by decide +kernel
theorem dX9_style_66 : decode cX9_style 66 = .ok (.iconst 1, 1) := by decide +kernel
theorem dX9_style_67 : decode cX9_style 67 = .ok (.iadd, 1) := by decide +kernel
theorem dX9_style_68 : decode cX9_style 68 = .ok (.iload_n 3, 1) := by decide +kernel
theorem dX9_style_69 : decode cX9_style 69 = .ok (.iastore, 1) := by decide +kernel
theorem dX9_style_70 : decode cX9_style 70 = .ok (.aload_n 0, 1) := by decide +kernel
theorem dX9_style_71 : decode cX9_style 71 = .ok (.getfield 28, 3) := by decide +kernel
theorem dX9_style_74 : decode cX9_style 74 = .ok (.iconst 3, 1) := by decide +kernel
theorem dX9_style_75 : decode cX9_style 75 = .ok (.iload_n 1, 1) := by decide +kernel
theorem dX9_style_76 : decode cX9_style 76 = .ok (.imul, 1) := by decide +kernel
theorem dX9_style_77 : decode cX9_style 77 = .ok (.iconst 2, 1) := by decide +kernel
theorem dX9_style_78 : decode cX9_style 78 = .ok (.iadd, 1) := by decide +kernel
theorem dX9_style_79 : decode cX9_style 79 = .ok (.iload 4, 2) := by decide +kernel
theorem dX9_style_81 : decode cX9_style 81 = .ok (.iastore, 1) := by decide +kernel
theorem dX9_style_82 : decode cX9_style 82 = .ok (.return_, 1) := by decide +kernel
set_option maxRecDepth 20000 in
theorem ggX9_learn_X9_in : GoodIn wsX9_learn wsX9_in := goodIn_r _ [6] (by decide +kernel) (by decide +kernel)
set_option maxRecDepth 20000 in
theorem gX9_learn_X9_in : GoodIn wsX9_learn (va_wsS RX9 87 yX9_in wsX9_in) := goodIn_app (goodIn_of _ (by decide +kernel)) ggX9_learn_X9_in
set_option maxRecDepth 20000 in
theorem ggX9_learn_X9_goes : GoodIn wsX9_learn wsX9_goes := goodIn_r _ [10, 11, 12, 13, 14, 15, 16, 17, 18, 19, 20, 21, 22, 23, 24, 25, 26, 27, 28, 29, 30, 31, 32, 33, 34, 35, 36, 37, 38, 39, 40] (by decide +kernel) (by decide +kernel)
set_option maxRecDepth 20000 in
theorem gX9_learn_X9_goes : GoodIn wsX9_learn (wsV RX9 97 RX9 yX9_goes wsX9_goes) := goodIn_app (goodIn_of _ (by decide +kernel)) ggX9_learn_X9_goes
theorem dX9_learn_0 : decode cX9_learn 0 = .ok (.iload_n 1, 1) := by decide +kernel
theorem dX9_learn_1 : decode cX9_learn 1 = .ok (.iconst 0, 1) := by decide +kernel
theorem dX9_learn_2 : decode cX9_learn 2 = .ok (.iconst 3, 1) := by decide +kernel
theorem dX9_learn_3 : decode cX9_learn 3 = .ok (.invokestatic 87, 3) := by decide +kernel
theorem dX9_learn_6 : decode cX9_learn 6 = .ok (.ifCond .eq 16, 3) := by decide +kernel
theorem dX9_learn_9 : decode cX9_learn 9 = .ok (.iload_n 2, 1) := by decide +kernel
theorem dX9_learn_10 : decode cX9_learn 10 = .ok (.iconst 0, 1) := by decide +kernel
theorem dX9_learn_11 : decode cX9_learn 11 = .ok (.iconst 3, 1) := by decide +kernel
theorem dX9_learn_12 : decode cX9_learn 12 = .ok (.invokestatic 87, 3) := by decide +kernel
theorem dX9_learn_15 : decode cX9_learn 15 = .ok (.ifCond .eq 7, 3) := by decide +kernel
theorem dX9_learn_18 : decode cX9_learn 18 = .ok (.iconst 1, 1) := by decide +kernel
theorem dX9_learn_19 : decode cX9_learn 19 = .ok (.goto 4, 3) := by decide +kernel
theorem dX9_learn_22 : decode cX9_learn 22 = .ok (.iconst 0, 1) := by decide +kernel
theorem dX9_learn_23 : decode cX9_learn 23 = .ok (.istore_n 3, 1) := by decide +kernel
theorem dX9_learn_24 : decode cX9_learn 24 = .ok (.aload_n 0, 1) := by decide +kernel
theorem dX9_learn_25 : decode cX9_learn 25 = .ok (.iload_n 3, 1) := by decide +kernel
theorem dX9_learn_26 : decode cX9_learn 26 = .ok (.iload_n 3, 1) := by decide +kernel
theorem dX9_learn_27 : decode cX9_learn 27 = .ok (.ifCond .eq 29, 3) := by decide +kernel
theorem dX9_learn_30 : decode cX9_learn 30 = .ok (.aload_n 0, 1) := by decide +kernel
theorem dX9_learn_31 : decode cX9_learn 31 = .ok (.getfield 31, 3) := by decide +kernel
theorem dX9_learn_34 : decode cX9_learn 34 = .ok (.iload_n 3, 1) := by decide +kernel
theorem dX9_learn_35 : decode cX9_learn 35 = .ok (.ifCond .eq 11, 3) := by decide +kernel
theorem dX9_learn_38 : decode cX9_learn 38 = .ok (.iconst 4, 1) := by decide +kernel
theorem dX9_learn_39 : decode cX9_learn 39 = .ok (.iload_n 1, 1) := by decide +kernel
theorem dX9_learn_40 : decode cX9_learn 40 = .ok (.imul, 1) := by decide +kernel
theorem dX9_learn_41 : decode cX9_learn 41 = .ok (.iload_n 2, 1) := by decide +kernel
theorem dX9_learn_42 : decode cX9_learn 42 = .ok (.iadd, 1) := by decide +kernel
theorem dX9_learn_43 : decode cX9_learn 43 = .ok (.goto 4, 3) := by decide +kernel
theorem dX9_learn_46 : decode cX9_learn 46 = .ok (.iconst 0, 1) := by decide +kernel
theorem dX9_learn_47 : decode cX9_learn 47 = .ok (.iaload, 1) := by decide +kernel
theorem dX9_learn_48 : decode cX9_learn 48 = .ok (.iconst (-1), 1) := by decide +kernel
theorem dX9_learn_49 : decode cX9_learn 49 = .ok (.if_icmp .ne 7, 3) := by decide +kernel
theorem dX9_learn_52 : decode cX9_learn 52 = .ok (.iconst 1, 1) := by decide +kernel
theorem dX9_learn_53 : decode cX9_learn 53 = .ok (.goto 4, 3) := by decide +kernel
theorem dX9_learn_56 : decode cX9_learn 56 = .ok (.iconst 0, 1) := by decide +kernel
theorem dX9_learn_57 : decode cX9_learn 57 = .ok (.iconst 1, 1) := by decide +kernel
theorem dX9_learn_58 : decode cX9_learn 58 = .ok (.invokevirtual 97, 3) := by decide +kernel
theorem dX9_learn_61 : decode cX9_learn 61 = .ok (.ifCond .ne 5, 3) := by decide +kernel
theorem dX9_learn_64 : decode cX9_learn 64 = .ok (.iconst 0, 1) := by decide +kernel
theorem dX9_learn_65 : decode cX9_learn 65 = .ok (.ireturn, 1) := by decide +kernel
theorem dX9_learn_66 : decode cX9_learn 66 = .ok (.aload_n 0, 1) := by decide +kernel
theorem dX9_learn_67 : decode cX9_learn 67 = .ok (.getfield 31, 3) := by decide +kernel
theorem dX9_learn_70 : decode cX9_learn 70 = .ok (.iconst 4, 1) := by decide +kernel
theorem dX9_learn_71 : decode cX9_learn 71 = .ok (.iload_n 1, 1) := by decide +kernel
theorem dX9_learn_72 : decode cX9_learn 72 = .ok (.imul, 1) := by decide +kernel
theorem dX9_learn_73 : decode cX9_learn 73 = .ok (.iload_n 2, 1) := by decide +kernel
theorem dX9_learn_74 : decode cX9_learn 74 = .ok (.iadd, 1) := by decide +kernel
theorem dX9_learn_75 : decode cX9_learn 75 = .ok (.aload_n 0, 1) := by decide +kernel
theorem dX9_learn_76 : decode cX9_learn 76 = .ok (.getfield 105, 3) := by decide +kernel
theorem dX9_learn_79 : decode cX9_learn 79 = .ok (.iastore, 1) := by decide +kernel
theorem dX9_learn_80 : decode cX9_learn 80 = .ok (.iconst 0, 1) := by decide +kernel
theorem dX9_learn_81 : decode cX9_learn 81 = .ok (.istore 4, 2) := by decide +kernel
theorem dX9_learn_83 : decode cX9_learn 83 = .ok (.iconst 0, 1) := by decide +kernel
theorem dX9_learn_84 : decode cX9_learn 84 = .ok (.istore 5, 2) := by decide +kernel
theorem dX9_learn_86 : decode cX9_learn 86 = .ok (.iload 5, 2) := by decide +kernel
theorem dX9_learn_88 : decode cX9_learn 88 = .ok (.iconst 4, 1) := by decide +kernel
theorem dX9_learn_89 : decode cX9_learn 89 = .ok (.if_icmp .ge 34, 3) := by decide +kernel
theorem dX9_learn_92 : decode cX9_learn 92 = .ok (.iload 4, 2) := by decide +kernel
theorem dX9_learn_94 : decode cX9_learn 94 = .ok (.aload_n 0, 1) := by decide +kernel
theorem dX9_learn_95 : decode cX9_learn 95 = .ok (.getfield 31, 3) := by decide +kernel
theorem dX9_learn_98 : decode cX9_learn 98 = .ok (.iconst 4, 1) := by decide +kernel
theorem dX9_learn_99 : decode cX9_learn 99 = .ok (.iload_n 1, 1) := by decide +kernel
theorem dX9_learn_100 : decode cX9_learn 100 = .ok (.imul, 1) := by decide +kernel
theorem dX9_learn_101 : decode cX9_learn 101 = .ok (.iload 5, 2) := by decide +kernel
theorem dX9_learn_103 : decode cX9_learn 103 = .ok (.iadd, 1) := by decide +kernel
theorem dX9_learn_104 : decode cX9_learn 104 = .ok (.iaload, 1) := by decide +kernel
theorem dX9_learn_105 : decode cX9_learn 105 = .ok (.iconst (-1), 1) := by decide +kernel
theorem dX9_learn_106 : decode cX9_learn 106 = .ok (.if_icmp .ne 7, 3) := by decide +kernel
theorem dX9_learn_109 : decode cX9_learn 109 = .ok (.iconst 0, 1) := by decide +kernel
theorem dX9_learn_110 : decode cX9_learn 110 = .ok (.goto 4, 3) := by decide +kernel
theorem dX9_learn_113 : decode cX9_learn 113 = .ok (.iconst 1, 1) := by decide +kernel
theorem dX9_learn_114 : decode cX9_learn 114 = .ok (.iadd, 1) := by decide +kernel
theorem dX9_learn_115 : decode cX9_learn 115 = .ok (.istore 4, 2) := by decide +kernel
theorem dX9_learn_117 : decode cX9_learn 117 = .ok (.iinc 5 1, 3) := by decide +kernel
theorem dX9_learn_120 : decode cX9_learn 120 = .ok (.goto (-34), 3) := by decide +kernel
theorem dX9_learn_123 : decode cX9_learn 123 = .ok (.iload 4, 2) := by decide +kernel
theorem dX9_learn_125 : decode cX9_learn 125 = .ok (.ireturn, 1) := by decide +kernel
set_option maxRecDepth 20000 in
theorem ggX9_pass_X9_in : GoodIn wsX9_pass wsX9_in := goodIn_r _ [7] (by decide +kernel) (by decide +kernel)
set_option maxRecDepth 20000 in
theorem gX9_pass_X9_in : GoodIn wsX9_pass (va_wsS RX9 87 yX9_in wsX9_in) := goodIn_app (goodIn_of _ (by decide +kernel)) ggX9_pass_X9_in
set_option maxRecDepth 20000 in
theorem ggX9_pass_X9_goes : GoodIn wsX9_pass wsX9_goes := goodIn_r _ [11, 12, 13, 14, 15, 16, 17, 18, 19, 20, 21, 22, 23, 24, 25, 26, 27, 28, 29, 30, 31, 32, 33, 34, 35, 36, 37, 38, 39, 40, 41] (by decide +kernel) (by decide +kernel)
set_option maxRecDepth 20000 in
theorem gX9_pass_X9_goes : GoodIn wsX9_pass (wsV RX9 97 RX9 yX9_goes wsX9_goes) := goodIn_app (goodIn_of _ (by decide +kernel)) ggX9_pass_X9_goes
theorem dX9_pass_0 : decode cX9_pass 0 = .ok (.aload_n 0, 1) := by decide +kernel
theorem dX9_pass_1 : decode cX9_pass 1 = .ok (.iload_n 1, 1) := by decide +kernel
theorem dX9_pass_2 : decode cX9_pass 2 = .ok (.iconst 1, 1) := by decide +kernel
theorem dX9_pass_3 : decode cX9_pass 3 = .ok (.bipush 100, 2) := by decide +kernel
theorem dX9_pass_5 : decode cX9_pass 5 = .ok (.invokestatic 87, 3) := by decide +kernel
theorem dX9_pass_8 : decode cX9_pass 8 = .ok (.aload_n 0, 1) := by decide +kernel
theorem dX9_pass_9 : decode cX9_pass 9 = .ok (.getfield 105, 3) := by decide +kernel
theorem dX9_pass_12 : decode cX9_pass 12 = .ok (.iload_n 1, 1) := by decide +kernel
theorem dX9_pass_13 : decode cX9_pass 13 = .ok (.iadd, 1) := by decide +kernel
theorem dX9_pass_14 : decode cX9_pass 14 = .ok (.sipush 5000, 3) := by decide +kernel
theorem dX9_pass_17 : decode cX9_pass 17 = .ok (.if_icmp .gt 7, 3) := by decide +kernel
theorem dX9_pass_20 : decode cX9_pass 20 = .ok (.iconst 1, 1) := by decide +kernel
theorem dX9_pass_21 : decode cX9_pass 21 = .ok (.goto 4, 3) := by decide +kernel
theorem dX9_pass_24 : decode cX9_pass 24 = .ok (.iconst 0, 1) := by decide +kernel
theorem dX9_pass_25 : decode cX9_pass 25 = .ok (.iconst 1, 1) := by decide +kernel
theorem dX9_pass_26 : decode cX9_pass 26 = .ok (.invokevirtual 97, 3) := by decide +kernel
theorem dX9_pass_29 : decode cX9_pass 29 = .ok (.ifCond .ne 5, 3) := by decide +kernel
theorem dX9_pass_32 : decode cX9_pass 32 = .ok (.iconst 0, 1) := by decide +kernel
theorem dX9_pass_33 : decode cX9_pass 33 = .ok (.ireturn, 1) := by decide +kernel
theorem dX9_pass_34 : decode cX9_pass 34 = .ok (.iconst 0, 1) := by decide +kernel
theorem dX9_pass_35 : decode cX9_pass 35 = .ok (.istore_n 2, 1) := by decide +kernel
theorem dX9_pass_36 : decode cX9_pass 36 = .ok (.iload_n 2, 1) := by decide +kernel
theorem dX9_pass_37 : decode cX9_pass 37 = .ok (.iload_n 1, 1) := by decide +kernel
theorem dX9_pass_38 : decode cX9_pass 38 = .ok (.if_icmp .ge 66, 3) := by decide +kernel
theorem dX9_pass_41 : decode cX9_pass 41 = .ok (.iconst 0, 1) := by decide +kernel
theorem dX9_pass_42 : decode cX9_pass 42 = .ok (.istore_n 3, 1) := by decide +kernel
theorem dX9_pass_43 : decode cX9_pass 43 = .ok (.iload_n 3, 1) := by decide +kernel
theorem dX9_pass_44 : decode cX9_pass 44 = .ok (.iconst 3, 1) := by decide +kernel
theorem dX9_pass_45 : decode cX9_pass 45 = .ok (.if_icmp .ge 53, 3) := by decide +kernel
theorem dX9_pass_48 : decode cX9_pass 48 = .ok (.aload_n 0, 1) := by decide +kernel
theorem dX9_pass_49 : decode cX9_pass 49 = .ok (.getfield 22, 3) := by decide +kernel
theorem dX9_pass_52 : decode cX9_pass 52 = .ok (.iload_n 3, 1) := by decide +kernel
theorem dX9_pass_53 : decode cX9_pass 53 = .ok (.iaload, 1) := by decide +kernel
theorem dX9_pass_54 : decode cX9_pass 54 = .ok (.aload_n 0, 1) := by decide +kernel
theorem dX9_pass_55 : decode cX9_pass 55 = .ok (.getfield 25, 3) := by decide +kernel
theorem dX9_pass_58 : decode cX9_pass 58 = .ok (.iload_n 3, 1) := by decide +kernel
theorem dX9_pass_59 : decode cX9_pass 59 = .ok (.iaload, 1) := by decide +kernel
theorem dX9_pass_60 : decode cX9_pass 60 = .ok (.iadd, 1) := by decide +kernel
theorem dX9_pass_61 : decode cX9_pass 61 = .ok (.istore 4, 2) := by decide +kernel
theorem dX9_pass_63 : decode cX9_pass 63 = .ok (.aload_n 0, 1) := by decide +kernel
theorem dX9_pass_64 : decode cX9_pass 64 = .ok (.getfield 22, 3) := by decide +kernel
theorem dX9_pass_67 : decode cX9_pass 67 = .ok (.iload_n 3, 1) := by decide +kernel
theorem dX9_pass_68 : decode cX9_pass 68 = .ok (.iload 4, 2) := by decide +kernel
theorem dX9_pass_70 : decode cX9_pass 70 = .ok (.ifCond .ge 7, 3) := by decide +kernel
theorem dX9_pass_73 : decode cX9_pass 73 = .ok (.iconst 0, 1) := by decide +kernel
theorem dX9_pass_74 : decode cX9_pass 74 = .ok (.goto 17, 3) := by decide +kernel
theorem dX9_pass_77 : decode cX9_pass 77 = .ok (.iload 4, 2) := by decide +kernel
theorem dX9_pass_79 : decode cX9_pass 79 = .ok (.bipush 100, 2) := by decide +kernel
theorem dX9_pass_81 : decode cX9_pass 81 = .ok (.if_icmp .le 8, 3) := by decide +kernel
theorem dX9_pass_84 : decode cX9_pass 84 = .ok (.bipush 100, 2) := by decide +kernel
theorem dX9_pass_86 : decode cX9_pass 86 = .ok (.goto 5, 3) := by decide +kernel
theorem dX9_pass_89 : decode cX9_pass 89 = .ok (.iload 4, 2) := by decide +kernel
theorem dX9_pass_91 : decode cX9_pass 91 = .ok (.iastore, 1) := by decide +kernel
theorem dX9_pass_92 : decode cX9_pass 92 = .ok (.iinc 3 1, 3) := by decide +kernel
theorem dX9_pass_95 : decode cX9_pass 95 = .ok (.goto (-52), 3) := by decide +kernel
theorem dX9_pass_98 : decode cX9_pass 98 = .ok (.iinc 2 1, 3) := by decide +kernel
theorem dX9_pass_101 : decode cX9_pass 101 = .ok (.goto (-65), 3) := by decide +kernel
theorem dX9_pass_104 : decode cX9_pass 104 = .ok (.aload_n 0, 1) := by decide +kernel
theorem dX9_pass_105 : decode cX9_pass 105 = .ok (.dup, 1) := by decide +kernel
theorem dX9_pass_106 : decode cX9_pass 106 = .ok (.getfield 105, 3) := by decide +kernel
theorem dX9_pass_109 : decode cX9_pass 109 = .ok (.iload_n 1, 1) := by decide +kernel
theorem dX9_pass_110 : decode cX9_pass 110 = .ok (.iadd, 1) := by decide +kernel
theorem dX9_pass_111 : decode cX9_pass 111 = .ok (.putfield 105, 3) := by decide +kernel
theorem dX9_pass_114 : decode cX9_pass 114 = .ok (.aload_n 0, 1) := by decide +kernel
theorem dX9_pass_115 : decode cX9_pass 115 = .ok (.getfield 105, 3) := by decide +kernel
theorem dX9_pass_118 : decode cX9_pass 118 = .ok (.ireturn, 1) := by decide +kernel
set_option maxRecDepth 20000 in
theorem ggX9_duel_X9_in : GoodIn wsX9_duel wsX9_in := goodIn_r _ [16] (by decide +kernel) (by decide +kernel)
set_option maxRecDepth 20000 in
theorem gX9_duel_X9_in : GoodIn wsX9_duel (va_wsS RX9 87 yX9_in wsX9_in) := goodIn_app (goodIn_of _ (by decide +kernel)) ggX9_duel_X9_in
set_option maxRecDepth 20000 in
theorem ggX9_duel_X9_isPaper : GoodIn wsX9_duel wsX9_isPaper := goodIn_r _ [19, 13, 14, 15, 16] (by decide +kernel) (by decide +kernel)
set_option maxRecDepth 20000 in
theorem gX9_duel_X9_isPaper : GoodIn wsX9_duel (va_wsS RX9 101 yX9_isPaper wsX9_isPaper) := goodIn_app (goodIn_of _ (by decide +kernel)) ggX9_duel_X9_isPaper
set_option maxRecDepth 20000 in
theorem ggX9_duel_X9_goes : GoodIn wsX9_duel wsX9_goes := goodIn_r _ [23, 24, 25, 26, 27, 28, 29, 30, 31, 32, 33, 34, 35, 36, 37, 38, 39, 40, 41, 42, 43, 44, 45, 46, 47, 48, 49, 50, 51, 52, 53] (by decide +kernel) (by decide +kernel)
set_option maxRecDepth 20000 in
theorem gX9_duel_X9_goes : GoodIn wsX9_duel (wsV RX9 97 RX9 yX9_goes wsX9_goes) := goodIn_app (goodIn_of _ (by decide +kernel)) ggX9_duel_X9_goes
theorem dX9_duel_0 : decode cX9_duel 0 = .ok (.iload_n 1, 1) := by decide +kernel
theorem dX9_duel_1 : decode cX9_duel 1 = .ok (.iconst 0, 1) := by decide +kernel
theorem dX9_duel_2 : decode cX9_duel 2 = .ok (.bipush 7, 2) := by decide +kernel
theorem dX9_duel_4 : decode cX9_duel 4 = .ok (.invokestatic 87, 3) := by decide +kernel
theorem dX9_duel_7 : decode cX9_duel 7 = .ok (.ifCond .eq 34, 3) := by decide +kernel
theorem dX9_duel_10 : decode cX9_duel 10 = .ok (.iload_n 2, 1) := by decide +kernel
theorem dX9_duel_11 : decode cX9_duel 11 = .ok (.iconst 0, 1) := by decide +kernel
theorem dX9_duel_12 : decode cX9_duel 12 = .ok (.bipush 7, 2) := by decide +kernel
theorem dX9_duel_14 : decode cX9_duel 14 = .ok (.invokestatic 87, 3) := by decide +kernel
theorem dX9_duel_17 : decode cX9_duel 17 = .ok (.ifCond .eq 24, 3) := by decide +kernel
theorem dX9_duel_20 : decode cX9_duel 20 = .ok (.iload_n 3, 1) := by decide +kernel
theorem dX9_duel_21 : decode cX9_duel 21 = .ok (.iconst 0, 1) := by decide +kernel
theorem dX9_duel_22 : decode cX9_duel 22 = .ok (.iconst 3, 1) := by decide +kernel
theorem dX9_duel_23 : decode cX9_duel 23 = .ok (.invokestatic 87, 3) := by decide +kernel
theorem dX9_duel_26 : decode cX9_duel 26 = .ok (.ifCond .eq 15, 3) := by decide +kernel
theorem dX9_duel_29 : decode cX9_duel 29 = .ok (.iload 4, 2) := by decide +kernel
theorem dX9_duel_31 : decode cX9_duel 31 = .ok (.invokestatic 101, 3) := by decide +kernel
theorem dX9_duel_34 : decode cX9_duel 34 = .ok (.ifCond .eq 7, 3) := by decide +kernel
theorem dX9_duel_37 : decode cX9_duel 37 = .ok (.iconst 1, 1) := by decide +kernel
theorem dX9_duel_38 : decode cX9_duel 38 = .ok (.goto 4, 3) := by decide +kernel
theorem dX9_duel_41 : decode cX9_duel 41 = .ok (.iconst 0, 1) := by decide +kernel
theorem dX9_duel_42 : decode cX9_duel 42 = .ok (.istore 7, 2) := by decide +kernel
theorem dX9_duel_44 : decode cX9_duel 44 = .ok (.aload_n 0, 1) := by decide +kernel
theorem dX9_duel_45 : decode cX9_duel 45 = .ok (.iload 7, 2) := by decide +kernel
theorem dX9_duel_47 : decode cX9_duel 47 = .ok (.iload_n 1, 1) := by decide +kernel
theorem dX9_duel_48 : decode cX9_duel 48 = .ok (.iload_n 2, 1) := by decide +kernel
theorem dX9_duel_49 : decode cX9_duel 49 = .ok (.if_icmp .eq 29, 3) := by decide +kernel
theorem dX9_duel_52 : decode cX9_duel 52 = .ok (.iload 5, 2) := by decide +kernel
theorem dX9_duel_54 : decode cX9_duel 54 = .ok (.iconst 1, 1) := by decide +kernel
theorem dX9_duel_55 : decode cX9_duel 55 = .ok (.iconst 5, 1) := by decide +kernel
theorem dX9_duel_56 : decode cX9_duel 56 = .ok (.invokestatic 87, 3) := by decide +kernel
theorem dX9_duel_59 : decode cX9_duel 59 = .ok (.ifCond .eq 19, 3) := by decide +kernel
theorem dX9_duel_62 : decode cX9_duel 62 = .ok (.iload 6, 2) := by decide +kernel
theorem dX9_duel_64 : decode cX9_duel 64 = .ok (.iconst 0, 1) := by decide +kernel
theorem dX9_duel_65 : decode cX9_duel 65 = .ok (.sipush 999, 3) := by decide +kernel
theorem dX9_duel_68 : decode cX9_duel 68 = .ok (.invokestatic 87, 3) := by decide +kernel
theorem dX9_duel_71 : decode cX9_duel 71 = .ok (.ifCond .eq 7, 3) := by decide +kernel
theorem dX9_duel_74 : decode cX9_duel 74 = .ok (.iconst 1, 1) := by decide +kernel
theorem dX9_duel_75 : decode cX9_duel 75 = .ok (.goto 4, 3) := by decide +kernel
theorem dX9_duel_78 : decode cX9_duel 78 = .ok (.iconst 0, 1) := by decide +kernel
theorem dX9_duel_79 : decode cX9_duel 79 = .ok (.aload_n 0, 1) := by decide +kernel
theorem dX9_duel_80 : decode cX9_duel 80 = .ok (.getfield 91, 3) := by decide +kernel
theorem dX9_duel_83 : decode cX9_duel 83 = .ok (.ifCond .le 16, 3) := by decide +kernel
theorem dX9_duel_86 : decode cX9_duel 86 = .ok (.aload_n 0, 1) := by decide +kernel
theorem dX9_duel_87 : decode cX9_duel 87 = .ok (.getfield 84, 3) := by decide +kernel
theorem dX9_duel_90 : decode cX9_duel 90 = .ok (.bipush 12, 2) := by decide +kernel
theorem dX9_duel_92 : decode cX9_duel 92 = .ok (.if_icmp .ge 7, 3) := by decide +kernel
theorem dX9_duel_95 : decode cX9_duel 95 = .ok (.iconst 1, 1) := by decide +kernel
theorem dX9_duel_96 : decode cX9_duel 96 = .ok (.goto 4, 3) := by decide +kernel
theorem dX9_duel_99 : decode cX9_duel 99 = .ok (.iconst 0, 1) := by decide +kernel
theorem dX9_duel_100 : decode cX9_duel 100 = .ok (.invokevirtual 97, 3) := by decide +kernel
theorem dX9_duel_103 : decode cX9_duel 103 = .ok (.ifCond .ne 5, 3) := by decide +kernel
theorem dX9_duel_106 : decode cX9_duel 106 = .ok (.iconst 0, 1) := by decide +kernel
theorem dX9_duel_107 : decode cX9_duel 107 = .ok (.ireturn, 1) := by decide +kernel
theorem dX9_duel_108 : decode cX9_duel 108 = .ok (.aload_n 0, 1) := by decide +kernel
theorem dX9_duel_109 : decode cX9_duel 109 = .ok (.getfield 34, 3) := by decide +kernel
theorem dX9_duel_112 : decode cX9_duel 112 = .ok (.aload_n 0, 1) := by decide +kernel
theorem dX9_duel_113 : decode cX9_duel 113 = .ok (.getfield 84, 3) := by decide +kernel
theorem dX9_duel_116 : decode cX9_duel 116 = .ok (.iload_n 1, 1) := by decide +kernel
theorem dX9_duel_117 : decode cX9_duel 117 = .ok (.iastore, 1) := by decide +kernel
theorem dX9_duel_118 : decode cX9_duel 118 = .ok (.aload_n 0, 1) := by decide +kernel
theorem dX9_duel_119 : decode cX9_duel 119 = .ok (.getfield 37, 3) := by decide +kernel
theorem dX9_duel_122 : decode cX9_duel 122 = .ok (.aload_n 0, 1) := by decide +kernel
theorem dX9_duel_123 : decode cX9_duel 123 = .ok (.getfield 84, 3) := by decide +kernel
theorem dX9_duel_126 : decode cX9_duel 126 = .ok (.iload_n 2, 1) := by decide +kernel
theorem dX9_duel_127 : decode cX9_duel 127 = .ok (.iastore, 1) := by decide +kernel
theorem dX9_duel_128 : decode cX9_duel 128 = .ok (.aload_n 0, 1) := by decide +kernel
theorem dX9_duel_129 : decode cX9_duel 129 = .ok (.getfield 40, 3) := by decide +kernel
theorem dX9_duel_132 : decode cX9_duel 132 = .ok (.aload_n 0, 1) := by decide +kernel
theorem dX9_duel_133 : decode cX9_duel 133 = .ok (.getfield 84, 3) := by decide +kernel
theorem dX9_duel_136 : decode cX9_duel 136 = .ok (.iload_n 3, 1) := by decide +kernel
theorem dX9_duel_137 : decode cX9_duel 137 = .ok (.iastore, 1) := by decide +kernel
theorem dX9_duel_138 : decode cX9_duel 138 = .ok (.aload_n 0, 1) := by decide +kernel
theorem dX9_duel_139 : decode cX9_duel 139 = .ok (.getfield 43, 3) := by decide +kernel
theorem dX9_duel_142 : decode cX9_duel 142 = .ok (.aload_n 0, 1) := by decide +kernel
theorem dX9_duel_143 : decode cX9_duel 143 = .ok (.getfield 84, 3) := by decide +kernel
theorem dX9_duel_146 : decode cX9_duel 146 = .ok (.iconst (-1), 1) := by decide +kernel
theorem dX9_duel_147 : decode cX9_duel 147 = .ok (.iastore, 1) := by decide +kernel
theorem dX9_duel_148 : decode cX9_duel 148 = .ok (.aload_n 0, 1) := by decide +kernel
theorem dX9_duel_149 : decode cX9_duel 149 = .ok (.getfield 46, 3) := by decide +kernel
theorem dX9_duel_152 : decode cX9_duel 152 = .ok (.aload_n 0, 1) := by decide +kernel
theorem dX9_duel_153 : decode cX9_duel 153 = .ok (.getfield 84, 3) := by decide +kernel
theorem dX9_duel_156 : decode cX9_duel 156 = .ok (.iload 4, 2) := by decide +kernel
theorem dX9_duel_158 : decode cX9_duel 158 = .ok (.iastore, 1) := by decide +kernel
theorem dX9_duel_159 : decode cX9_duel 159 = .ok (.aload_n 0, 1) := by decide +kernel
theorem dX9_duel_160 : decode cX9_duel 160 = .ok (.getfield 49, 3) := by decide +kernel
theorem dX9_duel_163 : decode cX9_duel 163 = .ok (.aload_n 0, 1) := by decide +kernel
theorem dX9_duel_164 : decode cX9_duel 164 = .ok (.getfield 84, 3) := by decide +kernel
theorem dX9_duel_167 : decode cX9_duel 167 = .ok (.iload 5, 2) := by decide +kernel
theorem dX9_duel_169 : decode cX9_duel 169 = .ok (.iastore, 1) := by decide +kernel
theorem dX9_duel_170 : decode cX9_duel 170 = .ok (.aload_n 0, 1) := by decide +kernel
theorem dX9_duel_171 : decode cX9_duel 171 = .ok (.getfield 52, 3) := by decide +kernel
theorem dX9_duel_174 : decode cX9_duel 174 = .ok (.aload_n 0, 1) := by decide +kernel
theorem dX9_duel_175 : decode cX9_duel 175 = .ok (.getfield 84, 3) := by decide +kernel
theorem dX9_duel_178 : decode cX9_duel 178 = .ok (.iload 6, 2) := by decide +kernel
theorem dX9_duel_180 : decode cX9_duel 180 = .ok (.iastore, 1) := by decide +kernel
theorem dX9_duel_181 : decode cX9_duel 181 = .ok (.aload_n 0, 1) := by decide +kernel
theorem dX9_duel_182 : decode cX9_duel 182 = .ok (.getfield 55, 3) := by decide +kernel
theorem dX9_duel_185 : decode cX9_duel 185 = .ok (.aload_n 0, 1) := by decide +kernel
theorem dX9_duel_186 : decode cX9_duel 186 = .ok (.getfield 84, 3) := by decide +kernel
theorem dX9_duel_189 : decode cX9_duel 189 = .ok (.aload_n 0, 1) := by decide +kernel
theorem dX9_duel_190 : decode cX9_duel 190 = .ok (.getfield 91, 3) := by decide +kernel
theorem dX9_duel_193 : decode cX9_duel 193 = .ok (.iastore, 1) := by decide +kernel
theorem dX9_duel_194 : decode cX9_duel 194 = .ok (.aload_n 0, 1) := by decide +kernel
theorem dX9_duel_195 : decode cX9_duel 195 = .ok (.getfield 58, 3) := by decide +kernel
theorem dX9_duel_198 : decode cX9_duel 198 = .ok (.aload_n 0, 1) := by decide +kernel
theorem dX9_duel_199 : decode cX9_duel 199 = .ok (.getfield 84, 3) := by decide +kernel
theorem dX9_duel_202 : decode cX9_duel 202 = .ok (.aload_n 0, 1) := by decide +kernel
theorem dX9_duel_203 : decode cX9_duel 203 = .ok (.getfield 105, 3) := by decide +kernel
theorem dX9_duel_206 : decode cX9_duel 206 = .ok (.iastore, 1) := by decide +kernel
theorem dX9_duel_207 : decode cX9_duel 207 = .ok (.aload_n 0, 1) := by decide +kernel
theorem dX9_duel_208 : decode cX9_duel 208 = .ok (.dup, 1) := by decide +kernel
theorem dX9_duel_209 : decode cX9_duel 209 = .ok (.getfield 84, 3) := by decide +kernel
theorem dX9_duel_212 : decode cX9_duel 212 = .ok (.iconst 1, 1) := by decide +kernel
theorem dX9_duel_213 : decode cX9_duel 213 = .ok (.iadd, 1) := by decide +kernel
theorem dX9_duel_214 : decode cX9_duel 214 = .ok (.putfield 84, 3) := by decide +kernel
theorem dX9_duel_217 : decode cX9_duel 217 = .ok (.aload_n 0, 1) := by decide +kernel
theorem dX9_duel_218 : decode cX9_duel 218 = .ok (.getfield 84, 3) := by decide +kernel
theorem dX9_duel_221 : decode cX9_duel 221 = .ok (.iconst 1, 1) := by decide +kernel
theorem dX9_duel_222 : decode cX9_duel 222 = .ok (.isub, 1) := by decide +kernel
theorem dX9_duel_223 : decode cX9_duel 223 = .ok (.ireturn, 1) := by decide +kernel
theorem dX9_isOver_0 : decode cX9_isOver 0 = .ok (.aload_n 0, 1) := by decide +kernel
theorem dX9_isOver_1 : decode cX9_isOver 1 = .ok (.getfield 61, 3) := by decide +kernel
theorem dX9_isOver_4 : decode cX9_isOver 4 = .ok (.iload_n 1, 1) := by decide +kernel
theorem dX9_isOver_5 : decode cX9_isOver 5 = .ok (.iaload, 1) := by decide +kernel
theorem dX9_isOver_6 : decode cX9_isOver 6 = .ok (.iconst 2, 1) := by decide +kernel
theorem dX9_isOver_7 : decode cX9_isOver 7 = .ok (.aload_n 0, 1) := by decide +kernel
theorem dX9_isOver_8 : decode cX9_isOver 8 = .ok (.getfield 49, 3) := by decide +kernel
theorem dX9_isOver_11 : decode cX9_isOver 11 = .ok (.iload_n 1, 1) := by decide +kernel
theorem dX9_isOver_12 : decode cX9_isOver 12 = .ok (.iaload, 1) := by decide +kernel
theorem dX9_isOver_13 : decode cX9_isOver 13 = .ok (.imul, 1) := by decide +kernel
theorem dX9_isOver_14 : decode cX9_isOver 14 = .ok (.if_icmp .ne 7, 3) := by decide +kernel
theorem dX9_isOver_17 : decode cX9_isOver 17 = .ok (.iconst 1, 1) := by decide +kernel
theorem dX9_isOver_18 : decode cX9_isOver 18 = .ok (.goto 4, 3) := by decide +kernel
theorem dX9_isOver_21 : decode cX9_isOver 21 = .ok (.iconst 0, 1) := by decide +kernel
theorem dX9_isOver_22 : decode cX9_isOver 22 = .ok (.ireturn, 1) := by decide +kernel
set_option maxRecDepth 20000 in
theorem ggX9_hand_X9_isDuel : GoodIn wsX9_hand wsX9_isDuel := goodIn_r _ [18, 19, 20, 21, 17, 22, 33, 34, 35, 36, 37, 38, 39, 40, 41, 42, 43, 44, 45, 46, 47, 48, 49, 50, 51, 52, 53, 54, 55, 56, 57, 58, 59, 60, 61] (by decide +kernel) (by decide +kernel)
set_option maxRecDepth 20000 in
theorem gX9_hand_X9_isDuel : GoodIn wsX9_hand (wsV RX9 108 RX9 yX9_isDuel wsX9_isDuel) := goodIn_app (goodIn_of _ (by decide +kernel)) ggX9_hand_X9_isDuel
set_option maxRecDepth 20000 in
theorem ggX9_hand_X9_in : GoodIn wsX9_hand wsX9_in := goodIn_r _ [22] (by decide +kernel) (by decide +kernel)
set_option maxRecDepth 20000 in
theorem gX9_hand_X9_in : GoodIn wsX9_hand (va_wsS RX9 87 yX9_in wsX9_in) := goodIn_app (goodIn_of _ (by decide +kernel)) ggX9_hand_X9_in
set_option maxRecDepth 20000 in
theorem ggX9_hand_X9_isOver : GoodIn wsX9_hand wsX9_isOver := goodIn_r _ [26, 4, 27, 33, 34, 35, 36, 37, 38, 39, 40, 41, 42, 43, 44, 45, 46, 47, 48, 49, 50, 51, 52, 53, 54, 55, 56, 57, 58, 59, 60, 61] (by decide +kernel) (by decide +kernel)
set_option maxRecDepth 20000 in
theorem gX9_hand_X9_isOver : GoodIn wsX9_hand (wsV RX9 111 RX9 yX9_isOver wsX9_isOver) := goodIn_app (goodIn_of _ (by decide +kernel)) ggX9_hand_X9_isOver
set_option maxRecDepth 20000 in
theorem ggX9_hand_X9_goes : GoodIn wsX9_hand wsX9_goes := goodIn_r _ [31, 32, 33, 34, 35, 36, 37, 38, 39, 40, 41, 42, 43, 44, 45, 46, 47, 48, 49, 50, 51, 52, 53, 54, 55, 56, 57, 58, 59, 60, 61] (by decide +kernel) (by decide +kernel)
set_option maxRecDepth 20000 in
theorem gX9_hand_X9_goes : GoodIn wsX9_hand (wsV RX9 97 RX9 yX9_goes wsX9_goes) := goodIn_app (goodIn_of _ (by decide +kernel)) ggX9_hand_X9_goes
theorem dX9_hand_0 : decode cX9_hand 0 = .ok (.aload_n 0, 1) := by decide +kernel
theorem dX9_hand_1 : decode cX9_hand 1 = .ok (.iload_n 1, 1) := by decide +kernel
theorem dX9_hand_2 : decode cX9_hand 2 = .ok (.invokevirtual 108, 3) := by decide +kernel
theorem dX9_hand_5 : decode cX9_hand 5 = .ok (.istore_n 3, 1) := by decide +kernel
theorem dX9_hand_6 : decode cX9_hand 6 = .ok (.aload_n 0, 1) := by decide +kernel
theorem dX9_hand_7 : decode cX9_hand 7 = .ok (.iload_n 3, 1) := by decide +kernel
theorem dX9_hand_8 : decode cX9_hand 8 = .ok (.iload_n 2, 1) := by decide +kernel
theorem dX9_hand_9 : decode cX9_hand 9 = .ok (.iconst 0, 1) := by decide +kernel
theorem dX9_hand_10 : decode cX9_hand 10 = .ok (.sipush 999, 3) := by decide +kernel
theorem dX9_hand_13 : decode cX9_hand 13 = .ok (.invokestatic 87, 3) := by decide +kernel
theorem dX9_hand_16 : decode cX9_hand 16 = .ok (.iload_n 3, 1) := by decide +kernel
theorem dX9_hand_17 : decode cX9_hand 17 = .ok (.ifCond .eq 36, 3) := by decide +kernel
theorem dX9_hand_20 : decode cX9_hand 20 = .ok (.aload_n 0, 1) := by decide +kernel
theorem dX9_hand_21 : decode cX9_hand 21 = .ok (.iload_n 1, 1) := by decide +kernel
theorem dX9_hand_22 : decode cX9_hand 22 = .ok (.invokevirtual 111, 3) := by decide +kernel
theorem dX9_hand_25 : decode cX9_hand 25 = .ok (.ifCond .ne 28, 3) := by decide +kernel
theorem dX9_hand_28 : decode cX9_hand 28 = .ok (.aload_n 0, 1) := by decide +kernel
theorem dX9_hand_29 : decode cX9_hand 29 = .ok (.getfield 94, 3) := by decide +kernel
theorem dX9_hand_32 : decode cX9_hand 32 = .ok (.ifCond .le 21, 3) := by decide +kernel
theorem dX9_hand_35 : decode cX9_hand 35 = .ok (.aload_n 0, 1) := by decide +kernel
theorem dX9_hand_36 : decode cX9_hand 36 = .ok (.getfield 19, 3) := by decide +kernel
theorem dX9_hand_39 : decode cX9_hand 39 = .ok (.aload_n 0, 1) := by decide +kernel
theorem dX9_hand_40 : decode cX9_hand 40 = .ok (.getfield 46, 3) := by decide +kernel
theorem dX9_hand_43 : decode cX9_hand 43 = .ok (.iload_n 1, 1) := by decide +kernel
theorem dX9_hand_44 : decode cX9_hand 44 = .ok (.iaload, 1) := by decide +kernel
theorem dX9_hand_45 : decode cX9_hand 45 = .ok (.iaload, 1) := by decide +kernel
theorem dX9_hand_46 : decode cX9_hand 46 = .ok (.ifCond .le 7, 3) := by decide +kernel
theorem dX9_hand_49 : decode cX9_hand 49 = .ok (.iconst 1, 1) := by decide +kernel
theorem dX9_hand_50 : decode cX9_hand 50 = .ok (.goto 4, 3) := by decide +kernel
theorem dX9_hand_53 : decode cX9_hand 53 = .ok (.iconst 0, 1) := by decide +kernel
theorem dX9_hand_54 : decode cX9_hand 54 = .ok (.invokevirtual 97, 3) := by decide +kernel
theorem dX9_hand_57 : decode cX9_hand 57 = .ok (.ifCond .ne 5, 3) := by decide +kernel
theorem dX9_hand_60 : decode cX9_hand 60 = .ok (.iconst 0, 1) := by decide +kernel
theorem dX9_hand_61 : decode cX9_hand 61 = .ok (.ireturn, 1) := by decide +kernel
theorem dX9_hand_62 : decode cX9_hand 62 = .ok (.bipush 10, 2) := by decide +kernel
theorem dX9_hand_64 : decode cX9_hand 64 = .ok (.iload_n 1, 1) := by decide +kernel
theorem dX9_hand_65 : decode cX9_hand 65 = .ok (.imul, 1) := by decide +kernel
theorem dX9_hand_66 : decode cX9_hand 66 = .ok (.aload_n 0, 1) := by decide +kernel
theorem dX9_hand_67 : decode cX9_hand 67 = .ok (.getfield 61, 3) := by decide +kernel
theorem dX9_hand_70 : decode cX9_hand 70 = .ok (.iload_n 1, 1) := by decide +kernel
theorem dX9_hand_71 : decode cX9_hand 71 = .ok (.iaload, 1) := by decide +kernel
theorem dX9_hand_72 : decode cX9_hand 72 = .ok (.iadd, 1) := by decide +kernel
theorem dX9_hand_73 : decode cX9_hand 73 = .ok (.istore 4, 2) := by decide +kernel
theorem dX9_hand_75 : decode cX9_hand 75 = .ok (.aload_n 0, 1) := by decide +kernel
theorem dX9_hand_76 : decode cX9_hand 76 = .ok (.getfield 19, 3) := by decide +kernel
theorem dX9_hand_79 : decode cX9_hand 79 = .ok (.aload_n 0, 1) := by decide +kernel
theorem dX9_hand_80 : decode cX9_hand 80 = .ok (.getfield 46, 3) := by decide +kernel
theorem dX9_hand_83 : decode cX9_hand 83 = .ok (.iload_n 1, 1) := by decide +kernel
theorem dX9_hand_84 : decode cX9_hand 84 = .ok (.iaload, 1) := by decide +kernel
theorem dX9_hand_85 : decode cX9_hand 85 = .ok (.dup2, 1) := by decide +kernel
theorem dX9_hand_86 : decode cX9_hand 86 = .ok (.iaload, 1) := by decide +kernel
theorem dX9_hand_87 : decode cX9_hand 87 = .ok (.iconst 1, 1) := by decide +kernel
theorem dX9_hand_88 : decode cX9_hand 88 = .ok (.isub, 1) := by decide +kernel
theorem dX9_hand_89 : decode cX9_hand 89 = .ok (.iastore, 1) := by decide +kernel
theorem dX9_hand_90 : decode cX9_hand 90 = .ok (.aload_n 0, 1) := by decide +kernel
theorem dX9_hand_91 : decode cX9_hand 91 = .ok (.dup, 1) := by decide +kernel
theorem dX9_hand_92 : decode cX9_hand 92 = .ok (.getfield 114, 3) := by decide +kernel
theorem dX9_hand_95 : decode cX9_hand 95 = .ok (.iconst 1, 1) := by decide +kernel
theorem dX9_hand_96 : decode cX9_hand 96 = .ok (.iadd, 1) := by decide +kernel
theorem dX9_hand_97 : decode cX9_hand 97 = .ok (.putfield 114, 3) := by decide +kernel
theorem dX9_hand_100 : decode cX9_hand 100 = .ok (.aload_n 0, 1) := by decide +kernel
theorem dX9_hand_101 : decode cX9_hand 101 = .ok (.getfield 61, 3) := by decide +kernel
theorem dX9_hand_104 : decode cX9_hand 104 = .ok (.iload_n 1, 1) := by decide +kernel
theorem dX9_hand_105 : decode cX9_hand 105 = .ok (.iaload, 1) := by decide +kernel
theorem dX9_hand_106 : decode cX9_hand 106 = .ok (.iconst 2, 1) := by decide +kernel
theorem dX9_hand_107 : decode cX9_hand 107 = .ok (.irem, 1) := by decide +kernel
theorem dX9_hand_108 : decode cX9_hand 108 = .ok (.ifCond .ne 12, 3) := by decide +kernel
theorem dX9_hand_111 : decode cX9_hand 111 = .ok (.aload_n 0, 1) := by decide +kernel
theorem dX9_hand_112 : decode cX9_hand 112 = .ok (.getfield 34, 3) := by decide +kernel
theorem dX9_hand_115 : decode cX9_hand 115 = .ok (.iload_n 1, 1) := by decide +kernel
theorem dX9_hand_116 : decode cX9_hand 116 = .ok (.iaload, 1) := by decide +kernel
theorem dX9_hand_117 : decode cX9_hand 117 = .ok (.goto 9, 3) := by decide +kernel
theorem dX9_hand_120 : decode cX9_hand 120 = .ok (.aload_n 0, 1) := by decide +kernel
theorem dX9_hand_121 : decode cX9_hand 121 = .ok (.getfield 37, 3) := by decide +kernel
theorem dX9_hand_124 : decode cX9_hand 124 = .ok (.iload_n 1, 1) := by decide +kernel
theorem dX9_hand_125 : decode cX9_hand 125 = .ok (.iaload, 1) := by decide +kernel
theorem dX9_hand_126 : decode cX9_hand 126 = .ok (.istore 5, 2) := by decide +kernel
theorem dX9_hand_128 : decode cX9_hand 128 = .ok (.iconst 0, 1) := by decide +kernel
theorem dX9_hand_129 : decode cX9_hand 129 = .ok (.istore 6, 2) := by decide +kernel
theorem dX9_hand_131 : decode cX9_hand 131 = .ok (.iload 6, 2) := by decide +kernel
theorem dX9_hand_133 : decode cX9_hand 133 = .ok (.iconst 4, 1) := by decide +kernel
theorem dX9_hand_134 : decode cX9_hand 134 = .ok (.aload_n 0, 1) := by decide +kernel
theorem dX9_hand_135 : decode cX9_hand 135 = .ok (.getfield 94, 3) := by decide +kernel
theorem dX9_hand_138 : decode cX9_hand 138 = .ok (.imul, 1) := by decide +kernel
theorem dX9_hand_139 : decode cX9_hand 139 = .ok (.if_icmp .ge 29, 3) := by decide +kernel
theorem dX9_hand_142 : decode cX9_hand 142 = .ok (.aload_n 0, 1) := by decide +kernel
theorem dX9_hand_143 : decode cX9_hand 143 = .ok (.getfield 77, 3) := by decide +kernel
theorem dX9_hand_146 : decode cX9_hand 146 = .ok (.bipush 32, 2) := by decide +kernel
theorem dX9_hand_148 : decode cX9_hand 148 = .ok (.iload 4, 2) := by decide +kernel
theorem dX9_hand_150 : decode cX9_hand 150 = .ok (.imul, 1) := by decide +kernel
theorem dX9_hand_151 : decode cX9_hand 151 = .ok (.iload 6, 2) := by decide +kernel
theorem dX9_hand_153 : decode cX9_hand 153 = .ok (.iadd, 1) := by decide +kernel
theorem dX9_hand_154 : decode cX9_hand 154 = .ok (.aload_n 0, 1) := by decide +kernel
theorem dX9_hand_155 : decode cX9_hand 155 = .ok (.getfield 7, 3) := by decide +kernel
theorem dX9_hand_158 : decode cX9_hand 158 = .ok (.iload 6, 2) := by decide +kernel
theorem dX9_hand_160 : decode cX9_hand 160 = .ok (.iaload, 1) := by decide +kernel
theorem dX9_hand_161 : decode cX9_hand 161 = .ok (.iastore, 1) := by decide +kernel
theorem dX9_hand_162 : decode cX9_hand 162 = .ok (.iinc 6 1, 3) := by decide +kernel
theorem dX9_hand_165 : decode cX9_hand 165 = .ok (.goto (-34), 3) := by decide +kernel
theorem dX9_hand_168 : decode cX9_hand 168 = .ok (.aload_n 0, 1) := by decide +kernel
theorem dX9_hand_169 : decode cX9_hand 169 = .ok (.getfield 64, 3) := by decide +kernel
theorem dX9_hand_172 : decode cX9_hand 172 = .ok (.iload 4, 2) := by decide +kernel
theorem dX9_hand_174 : decode cX9_hand 174 = .ok (.aload_n 0, 1) := by decide +kernel
theorem dX9_hand_175 : decode cX9_hand 175 = .ok (.getfield 94, 3) := by decide +kernel
theorem dX9_hand_178 : decode cX9_hand 178 = .ok (.iastore, 1) := by decide +kernel
theorem dX9_hand_179 : decode cX9_hand 179 = .ok (.aload_n 0, 1) := by decide +kernel
theorem dX9_hand_180 : decode cX9_hand 180 = .ok (.getfield 67, 3) := by decide +kernel
theorem dX9_hand_183 : decode cX9_hand 183 = .ok (.iload 4, 2) := by decide +kernel
theorem dX9_hand_185 : decode cX9_hand 185 = .ok (.aload_n 0, 1) := by decide +kernel
theorem dX9_hand_186 : decode cX9_hand 186 = .ok (.getfield 22, 3) := by decide +kernel
theorem dX9_hand_189 : decode cX9_hand 189 = .ok (.aload_n 0, 1) := by decide +kernel
theorem dX9_hand_190 : decode cX9_hand 190 = .ok (.getfield 46, 3) := by decide +kernel
theorem dX9_hand_193 : decode cX9_hand 193 = .ok (.iload_n 1, 1) := by decide +kernel
theorem dX9_hand_194 : decode cX9_hand 194 = .ok (.iaload, 1) := by decide +kernel
theorem dX9_hand_195 : decode cX9_hand 195 = .ok (.iaload, 1) := by decide +kernel
theorem dX9_hand_196 : decode cX9_hand 196 = .ok (.iastore, 1) := by decide +kernel
theorem dX9_hand_197 : decode cX9_hand 197 = .ok (.aload_n 0, 1) := by decide +kernel
theorem dX9_hand_198 : decode cX9_hand 198 = .ok (.getfield 70, 3) := by decide +kernel
theorem dX9_hand_201 : decode cX9_hand 201 = .ok (.iload 4, 2) := by decide +kernel
theorem dX9_hand_203 : decode cX9_hand 203 = .ok (.iload_n 2, 1) := by decide +kernel
theorem dX9_hand_204 : decode cX9_hand 204 = .ok (.bipush 101, 2) := by decide +kernel
theorem dX9_hand_206 : decode cX9_hand 206 = .ok (.iload 5, 2) := by decide +kernel
theorem dX9_hand_208 : decode cX9_hand 208 = .ok (.imul, 1) := by decide +kernel
theorem dX9_hand_209 : decode cX9_hand 209 = .ok (.bipush 37, 2) := by decide +kernel
theorem dX9_hand_211 : decode cX9_hand 211 = .ok (.aload_n 0, 1) := by decide +kernel
theorem dX9_hand_212 : decode cX9_hand 212 = .ok (.getfield 114, 3) := by decide +kernel
theorem dX9_hand_215 : decode cX9_hand 215 = .ok (.imul, 1) := by decide +kernel
theorem dX9_hand_216 : decode cX9_hand 216 = .ok (.iadd, 1) := by decide +kernel
theorem dX9_hand_217 : decode cX9_hand 217 = .ok (.sipush 1000, 3) := by decide +kernel
theorem dX9_hand_220 : decode cX9_hand 220 = .ok (.irem, 1) := by decide +kernel
theorem dX9_hand_221 : decode cX9_hand 221 = .ok (.if_icmp .eq 7, 3) := by decide +kernel
theorem dX9_hand_224 : decode cX9_hand 224 = .ok (.iconst 1, 1) := by decide +kernel
theorem dX9_hand_225 : decode cX9_hand 225 = .ok (.goto 4, 3) := by decide +kernel
theorem dX9_hand_228 : decode cX9_hand 228 = .ok (.iconst 0, 1) := by decide +kernel
theorem dX9_hand_229 : decode cX9_hand 229 = .ok (.bastore, 1) := by decide +kernel
theorem dX9_hand_230 : decode cX9_hand 230 = .ok (.aload_n 0, 1) := by decide +kernel
theorem dX9_hand_231 : decode cX9_hand 231 = .ok (.iconst 0, 1) := by decide +kernel
theorem dX9_hand_232 : decode cX9_hand 232 = .ok (.putfield 94, 3) := by decide +kernel
theorem dX9_hand_235 : decode cX9_hand 235 = .ok (.aload_n 0, 1) := by decide +kernel
theorem dX9_hand_236 : decode cX9_hand 236 = .ok (.getfield 61, 3) := by decide +kernel
theorem dX9_hand_239 : decode cX9_hand 239 = .ok (.iload_n 1, 1) := by decide +kernel
theorem dX9_hand_240 : decode cX9_hand 240 = .ok (.dup2, 1) := by decide +kernel
theorem dX9_hand_241 : decode cX9_hand 241 = .ok (.iaload, 1) := by decide +kernel
theorem dX9_hand_242 : decode cX9_hand 242 = .ok (.iconst 1, 1) := by decide +kernel
theorem dX9_hand_243 : decode cX9_hand 243 = .ok (.iadd, 1) := by decide +kernel
theorem dX9_hand_244 : decode cX9_hand 244 = .ok (.iastore, 1) := by decide +kernel
theorem dX9_hand_245 : decode cX9_hand 245 = .ok (.aload_n 0, 1) := by decide +kernel
theorem dX9_hand_246 : decode cX9_hand 246 = .ok (.getfield 114, 3) := by decide +kernel
theorem dX9_hand_249 : decode cX9_hand 249 = .ok (.ireturn, 1) := by decide +kernel
set_option maxRecDepth 20000 in
theorem ggX9_isHanded_X9_isDuel : GoodIn wsX9_isHanded wsX9_isDuel := goodIn_r _ [6, 7, 8, 9, 5, 10, 11, 12, 13, 14, 15, 16, 17, 18, 19, 20, 21, 22, 23, 24, 25, 26, 27, 28, 29, 30, 31, 32, 33, 34, 35, 36, 37, 38, 39] (by decide +kernel) (by decide +kernel)
set_option maxRecDepth 20000 in
theorem gX9_isHanded_X9_isDuel : GoodIn wsX9_isHanded (wsV RX9 108 RX9 yX9_isDuel wsX9_isDuel) := goodIn_app (goodIn_of _ (by decide +kernel)) ggX9_isHanded_X9_isDuel
set_option maxRecDepth 20000 in
theorem ggX9_isHanded_X9_in : GoodIn wsX9_isHanded wsX9_in := goodIn_r _ [10] (by decide +kernel) (by decide +kernel)
set_option maxRecDepth 20000 in
theorem gX9_isHanded_X9_in : GoodIn wsX9_isHanded (va_wsS RX9 87 yX9_in wsX9_in) := goodIn_app (goodIn_of _ (by decide +kernel)) ggX9_isHanded_X9_in
theorem dX9_isHanded_0 : decode cX9_isHanded 0 = .ok (.aload_n 0, 1) := by decide +kernel
theorem dX9_isHanded_1 : decode cX9_isHanded 1 = .ok (.iload_n 1, 1) := by decide +kernel
theorem dX9_isHanded_2 : decode cX9_isHanded 2 = .ok (.invokevirtual 108, 3) := by decide +kernel
theorem dX9_isHanded_5 : decode cX9_isHanded 5 = .ok (.ifCond .eq 38, 3) := by decide +kernel
theorem dX9_isHanded_8 : decode cX9_isHanded 8 = .ok (.iload_n 2, 1) := by decide +kernel
theorem dX9_isHanded_9 : decode cX9_isHanded 9 = .ok (.iconst 0, 1) := by decide +kernel
theorem dX9_isHanded_10 : decode cX9_isHanded 10 = .ok (.iconst 4, 1) := by decide +kernel
theorem dX9_isHanded_11 : decode cX9_isHanded 11 = .ok (.invokestatic 87, 3) := by decide +kernel
theorem dX9_isHanded_14 : decode cX9_isHanded 14 = .ok (.ifCond .eq 29, 3) := by decide +kernel
theorem dX9_isHanded_17 : decode cX9_isHanded 17 = .ok (.iconst 2, 1) := by decide +kernel
theorem dX9_isHanded_18 : decode cX9_isHanded 18 = .ok (.iload_n 2, 1) := by decide +kernel
theorem dX9_isHanded_19 : decode cX9_isHanded 19 = .ok (.imul, 1) := by decide +kernel
theorem dX9_isHanded_20 : decode cX9_isHanded 20 = .ok (.iload_n 3, 1) := by decide +kernel
theorem dX9_isHanded_21 : decode cX9_isHanded 21 = .ok (.ifCond .eq 7, 3) := by decide +kernel
theorem dX9_isHanded_24 : decode cX9_isHanded 24 = .ok (.iconst 1, 1) := by decide +kernel
theorem dX9_isHanded_25 : decode cX9_isHanded 25 = .ok (.goto 4, 3) := by decide +kernel
theorem dX9_isHanded_28 : decode cX9_isHanded 28 = .ok (.iconst 0, 1) := by decide +kernel
theorem dX9_isHanded_29 : decode cX9_isHanded 29 = .ok (.iadd, 1) := by decide +kernel
theorem dX9_isHanded_30 : decode cX9_isHanded 30 = .ok (.aload_n 0, 1) := by decide +kernel
theorem dX9_isHanded_31 : decode cX9_isHanded 31 = .ok (.getfield 61, 3) := by decide +kernel
theorem dX9_isHanded_34 : decode cX9_isHanded 34 = .ok (.iload_n 1, 1) := by decide +kernel
theorem dX9_isHanded_35 : decode cX9_isHanded 35 = .ok (.iaload, 1) := by decide +kernel
theorem dX9_isHanded_36 : decode cX9_isHanded 36 = .ok (.if_icmp .ge 7, 3) := by decide +kernel
theorem dX9_isHanded_39 : decode cX9_isHanded 39 = .ok (.iconst 1, 1) := by decide +kernel
theorem dX9_isHanded_40 : decode cX9_isHanded 40 = .ok (.goto 4, 3) := by decide +kernel
theorem dX9_isHanded_43 : decode cX9_isHanded 43 = .ok (.iconst 0, 1) := by decide +kernel
theorem dX9_isHanded_44 : decode cX9_isHanded 44 = .ok (.ireturn, 1) := by decide +kernel
theorem dX9_writing_0 : decode cX9_writing 0 = .ok (.bipush 10, 2) := by decide +kernel
theorem dX9_writing_2 : decode cX9_writing 2 = .ok (.iload_n 0, 1) := by decide +kernel
theorem dX9_writing_3 : decode cX9_writing 3 = .ok (.imul, 1) := by decide +kernel
theorem dX9_writing_4 : decode cX9_writing 4 = .ok (.iconst 2, 1) := by decide +kernel
theorem dX9_writing_5 : decode cX9_writing 5 = .ok (.iload_n 1, 1) := by decide +kernel
theorem dX9_writing_6 : decode cX9_writing 6 = .ok (.imul, 1) := by decide +kernel
theorem dX9_writing_7 : decode cX9_writing 7 = .ok (.iadd, 1) := by decide +kernel
theorem dX9_writing_8 : decode cX9_writing 8 = .ok (.iload_n 2, 1) := by decide +kernel
theorem dX9_writing_9 : decode cX9_writing 9 = .ok (.ifCond .eq 7, 3) := by decide +kernel
theorem dX9_writing_12 : decode cX9_writing 12 = .ok (.iconst 1, 1) := by decide +kernel
theorem dX9_writing_13 : decode cX9_writing 13 = .ok (.goto 4, 3) := by decide +kernel
theorem dX9_writing_16 : decode cX9_writing 16 = .ok (.iconst 0, 1) := by decide +kernel
theorem dX9_writing_17 : decode cX9_writing 17 = .ok (.iadd, 1) := by decide +kernel
theorem dX9_writing_18 : decode cX9_writing 18 = .ok (.ireturn, 1) := by decide +kernel
set_option maxRecDepth 20000 in
theorem ggX9_look_X9_isHanded : GoodIn wsX9_look wsX9_isHanded := goodIn_r _ [7, 8, 9, 10, 11, 6, 12, 13, 14, 15, 16, 25, 26, 27, 28, 29, 30, 31, 32, 33, 34, 35, 36, 37, 38, 39, 40, 41, 42, 43, 44, 45, 46, 47, 48, 49, 50, 51, 52, 53] (by decide +kernel) (by decide +kernel)
set_option maxRecDepth 20000 in
theorem gX9_look_X9_isHanded : GoodIn wsX9_look (wsV RX9 117 RX9 yX9_isHanded wsX9_isHanded) := goodIn_app (goodIn_of _ (by decide +kernel)) ggX9_look_X9_isHanded
set_option maxRecDepth 20000 in
theorem ggX9_look_X9_goes : GoodIn wsX9_look wsX9_goes := goodIn_r _ [20, 21, 25, 26, 27, 28, 29, 30, 31, 32, 33, 34, 35, 36, 37, 38, 39, 40, 41, 42, 43, 44, 45, 46, 47, 48, 49, 50, 51, 52, 53] (by decide +kernel) (by decide +kernel)
set_option maxRecDepth 20000 in
theorem gX9_look_X9_goes : GoodIn wsX9_look (wsV RX9 97 RX9 yX9_goes wsX9_goes) := goodIn_app (goodIn_of _ (by decide +kernel)) ggX9_look_X9_goes
set_option maxRecDepth 20000 in
theorem ggX9_look_X9_writing : GoodIn wsX9_look wsX9_writing := goodIn_r _ [24] (by decide +kernel) (by decide +kernel)
set_option maxRecDepth 20000 in
theorem gX9_look_X9_writing : GoodIn wsX9_look (va_wsS RX9 121 yX9_writing wsX9_writing) := goodIn_app (goodIn_of _ (by decide +kernel)) ggX9_look_X9_writing
theorem dX9_look_0 : decode cX9_look 0 = .ok (.aload_n 0, 1) := by decide +kernel
theorem dX9_look_1 : decode cX9_look 1 = .ok (.aload_n 0, 1) := by decide +kernel
theorem dX9_look_2 : decode cX9_look 2 = .ok (.iload_n 1, 1) := by decide +kernel
theorem dX9_look_3 : decode cX9_look 3 = .ok (.iload_n 2, 1) := by decide +kernel
theorem dX9_look_4 : decode cX9_look 4 = .ok (.iload_n 3, 1) := by decide +kernel
theorem dX9_look_5 : decode cX9_look 5 = .ok (.invokevirtual 117, 3) := by decide +kernel
theorem dX9_look_8 : decode cX9_look 8 = .ok (.iconst 1, 1) := by decide +kernel
theorem dX9_look_9 : decode cX9_look 9 = .ok (.iconst 1, 1) := by decide +kernel
theorem dX9_look_10 : decode cX9_look 10 = .ok (.invokevirtual 97, 3) := by decide +kernel
theorem dX9_look_13 : decode cX9_look 13 = .ok (.ifCond .ne 5, 3) := by decide +kernel
theorem dX9_look_16 : decode cX9_look 16 = .ok (.iconst 0, 1) := by decide +kernel
theorem dX9_look_17 : decode cX9_look 17 = .ok (.ireturn, 1) := by decide +kernel
theorem dX9_look_18 : decode cX9_look 18 = .ok (.iload_n 1, 1) := by decide +kernel
theorem dX9_look_19 : decode cX9_look 19 = .ok (.iload_n 2, 1) := by decide +kernel
theorem dX9_look_20 : decode cX9_look 20 = .ok (.iload_n 3, 1) := by decide +kernel
theorem dX9_look_21 : decode cX9_look 21 = .ok (.invokestatic 121, 3) := by decide +kernel
theorem dX9_look_24 : decode cX9_look 24 = .ok (.istore 4, 2) := by decide +kernel
theorem dX9_look_26 : decode cX9_look 26 = .ok (.aload_n 0, 1) := by decide +kernel
theorem dX9_look_27 : decode cX9_look 27 = .ok (.getfield 74, 3) := by decide +kernel
theorem dX9_look_30 : decode cX9_look 30 = .ok (.iload 4, 2) := by decide +kernel
theorem dX9_look_32 : decode cX9_look 32 = .ok (.aload_n 0, 1) := by decide +kernel
theorem dX9_look_33 : decode cX9_look 33 = .ok (.getfield 70, 3) := by decide +kernel
theorem dX9_look_36 : decode cX9_look 36 = .ok (.iload 4, 2) := by decide +kernel
theorem dX9_look_38 : decode cX9_look 38 = .ok (.baload, 1) := by decide +kernel
theorem dX9_look_39 : decode cX9_look 39 = .ok (.bastore, 1) := by decide +kernel
theorem dX9_look_40 : decode cX9_look 40 = .ok (.aload_n 0, 1) := by decide +kernel
theorem dX9_look_41 : decode cX9_look 41 = .ok (.getfield 70, 3) := by decide +kernel
theorem dX9_look_44 : decode cX9_look 44 = .ok (.iload 4, 2) := by decide +kernel
theorem dX9_look_46 : decode cX9_look 46 = .ok (.baload, 1) := by decide +kernel
theorem dX9_look_47 : decode cX9_look 47 = .ok (.ireturn, 1) := by decide +kernel
