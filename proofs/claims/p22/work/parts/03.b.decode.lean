theorem dX2_age_0 : decode cX2_age 0 = .ok (.aload_n 0, 1) := by decide +kernel
theorem dX2_age_1 : decode cX2_age 1 = .ok (.iconst 0, 1) := by decide +kernel
theorem dX2_age_2 : decode cX2_age 2 = .ok (.bipush 100, 2) := by decide +kernel
theorem dX2_age_4 : decode cX2_age 4 = .ok (.aload_n 0, 1) := by decide +kernel
theorem dX2_age_5 : decode cX2_age 5 = .ok (.getfield 9, 3) := by decide +kernel
theorem dX2_age_8 : decode cX2_age 8 = .ok (.iload_n 1, 1) := by decide +kernel
theorem dX2_age_9 : decode cX2_age 9 = .ok (.aload_n 0, 1) := by decide +kernel
theorem dX2_age_10 : decode cX2_age 10 = .ok (.getfield 15, 3) := by decide +kernel
theorem dX2_age_13 : decode cX2_age 13 = .ok (.imul, 1) := by decide +kernel
theorem dX2_age_14 : decode cX2_age 14 = .ok (.iadd, 1) := by decide +kernel
theorem dX2_age_15 : decode cX2_age 15 = .ok (.invokestatic 18, 3) := by decide +kernel
theorem dX2_age_18 : decode cX2_age 18 = .ok (.invokestatic 24, 3) := by decide +kernel
theorem dX2_age_21 : decode cX2_age 21 = .ok (.putfield 9, 3) := by decide +kernel
theorem dX2_age_24 : decode cX2_age 24 = .ok (.return_, 1) := by decide +kernel
theorem dX3_init_0 : decode cX3_init 0 = .ok (.aload_n 0, 1) := by decide +kernel
theorem dX3_init_1 : decode cX3_init 1 = .ok (.invokespecial 1, 3) := by decide +kernel
theorem dX3_init_4 : decode cX3_init 4 = .ok (.aload_n 0, 1) := by decide +kernel
theorem dX3_init_5 : decode cX3_init 5 = .ok (.fload_n 1, 1) := by decide +kernel
theorem dX3_init_6 : decode cX3_init 6 = .ok (.putfield 7, 3) := by decide +kernel
theorem dX3_init_9 : decode cX3_init 9 = .ok (.aload_n 0, 1) := by decide +kernel
theorem dX3_init_10 : decode cX3_init 10 = .ok (.fload_n 2, 1) := by decide +kernel
theorem dX3_init_11 : decode cX3_init 11 = .ok (.putfield 13, 3) := by decide +kernel
theorem dX3_init_14 : decode cX3_init 14 = .ok (.aload_n 0, 1) := by decide +kernel
theorem dX3_init_15 : decode cX3_init 15 = .ok (.fload_n 3, 1) := by decide +kernel
theorem dX3_init_16 : decode cX3_init 16 = .ok (.putfield 16, 3) := by decide +kernel
theorem dX3_init_19 : decode cX3_init 19 = .ok (.return_, 1) := by decide +kernel
set_option maxRecDepth 20000 in
theorem ggX3_between_X5_at : GoodIn wsX3_between wsX5_at := goodIn_r _ [10, 11, 12, 45, 46] (by decide +kernel) (by decide +kernel)
set_option maxRecDepth 20000 in
theorem gX3_between_X5_at : GoodIn wsX3_between (wsV RX3 19 RX5 yX5_at wsX5_at) := goodIn_app (goodIn_of _ (by decide +kernel)) ggX3_between_X5_at
set_option maxRecDepth 20000 in
theorem ggX3_between_X4_nearnessTo : GoodIn wsX3_between wsX4_nearnessTo := goodIn_r _ [17, 18, 19, 20, 21, 22, 23, 24, 25, 26, 27, 50, 51, 52, 53] (by decide +kernel) (by decide +kernel)
set_option maxRecDepth 20000 in
theorem gX3_between_X4_nearnessTo : GoodIn wsX3_between (wsV RX3 30 RX4 yX4_nearnessTo wsX4_nearnessTo) := goodIn_app (goodIn_of _ (by decide +kernel)) ggX3_between_X4_nearnessTo
set_option maxRecDepth 20000 in
theorem ggX3_between_X4_slopeTo : GoodIn wsX3_between wsX4_slopeTo := goodIn_r _ [31, 24, 18, 25, 23, 26, 32, 33, 34, 16, 35, 50, 51, 52, 53] (by decide +kernel) (by decide +kernel)
set_option maxRecDepth 20000 in
theorem gX3_between_X4_slopeTo : GoodIn wsX3_between (wsV RX3 36 RX4 yX4_slopeTo wsX4_slopeTo) := goodIn_app (goodIn_of _ (by decide +kernel)) ggX3_between_X4_slopeTo
set_option maxRecDepth 20000 in
theorem ggX3_between_X3_init : GoodIn wsX3_between wsX3_init := goodIn_r _ [38, 39, 40, 41, 42, 43, 44, 47, 48, 49] (by decide +kernel) (by decide +kernel)
set_option maxRecDepth 20000 in
theorem gX3_between_X3_init : GoodIn wsX3_between (wsX3_init) := ggX3_between_X3_init
theorem dX3_between_0 : decode cX3_between 0 = .ok (.aload_n 0, 1) := by decide +kernel
theorem dX3_between_1 : decode cX3_between 1 = .ok (.iload_n 2, 1) := by decide +kernel
theorem dX3_between_2 : decode cX3_between 2 = .ok (.invokevirtual 19, 3) := by decide +kernel
theorem dX3_between_5 : decode cX3_between 5 = .ok (.astore 4, 2) := by decide +kernel
theorem dX3_between_7 : decode cX3_between 7 = .ok (.aload_n 1, 1) := by decide +kernel
theorem dX3_between_8 : decode cX3_between 8 = .ok (.iload_n 2, 1) := by decide +kernel
theorem dX3_between_9 : decode cX3_between 9 = .ok (.invokevirtual 19, 3) := by decide +kernel
theorem dX3_between_12 : decode cX3_between 12 = .ok (.astore 5, 2) := by decide +kernel
theorem dX3_between_14 : decode cX3_between 14 = .ok (.aload 4, 2) := by decide +kernel
theorem dX3_between_16 : decode cX3_between 16 = .ok (.ifnull 8, 3) := by decide +kernel
theorem dX3_between_19 : decode cX3_between 19 = .ok (.aload 5, 2) := by decide +kernel
theorem dX3_between_21 : decode cX3_between 21 = .ok (.ifnonnull 5, 3) := by decide +kernel
theorem dX3_between_24 : decode cX3_between 24 = .ok (.aconst_null, 1) := by decide +kernel
theorem dX3_between_25 : decode cX3_between 25 = .ok (.areturn, 1) := by decide +kernel
theorem dX3_between_26 : decode cX3_between 26 = .ok (.aload_n 0, 1) := by decide +kernel
theorem dX3_between_27 : decode cX3_between 27 = .ok (.getfield 25, 3) := by decide +kernel
theorem dX3_between_30 : decode cX3_between 30 = .ok (.aload_n 1, 1) := by decide +kernel
theorem dX3_between_31 : decode cX3_between 31 = .ok (.getfield 25, 3) := by decide +kernel
theorem dX3_between_34 : decode cX3_between 34 = .ok (.if_icmp .ne 8, 3) := by decide +kernel
theorem dX3_between_37 : decode cX3_between 37 = .ok (.ldc 29, 2) := by decide +kernel
theorem dX3_between_39 : decode cX3_between 39 = .ok (.goto 4, 3) := by decide +kernel
theorem dX3_between_42 : decode cX3_between 42 = .ok (.fconst 0, 1) := by decide +kernel
theorem dX3_between_43 : decode cX3_between 43 = .ok (.fstore 6, 2) := by decide +kernel
theorem dX3_between_45 : decode cX3_between 45 = .ok (.new 8, 3) := by decide +kernel
theorem dX3_between_48 : decode cX3_between 48 = .ok (.dup, 1) := by decide +kernel
theorem dX3_between_49 : decode cX3_between 49 = .ok (.aload 4, 2) := by decide +kernel
theorem dX3_between_51 : decode cX3_between 51 = .ok (.aload 5, 2) := by decide +kernel
theorem dX3_between_53 : decode cX3_between 53 = .ok (.iload_n 3, 1) := by decide +kernel
theorem dX3_between_54 : decode cX3_between 54 = .ok (.invokevirtual 30, 3) := by decide +kernel
theorem dX3_between_57 : decode cX3_between 57 = .ok (.aload 4, 2) := by decide +kernel
theorem dX3_between_59 : decode cX3_between 59 = .ok (.aload 5, 2) := by decide +kernel
theorem dX3_between_61 : decode cX3_between 61 = .ok (.invokevirtual 36, 3) := by decide +kernel
theorem dX3_between_64 : decode cX3_between 64 = .ok (.fload 6, 2) := by decide +kernel
theorem dX3_between_66 : decode cX3_between 66 = .ok (.invokespecial 40, 3) := by decide +kernel
theorem dX3_between_69 : decode cX3_between 69 = .ok (.areturn, 1) := by decide +kernel
theorem dX3_markBy_0 : decode cX3_markBy 0 = .ok (.fconst 0, 1) := by decide +kernel
theorem dX3_markBy_1 : decode cX3_markBy 1 = .ok (.fstore_n 2, 1) := by decide +kernel
theorem dX3_markBy_2 : decode cX3_markBy 2 = .ok (.fload_n 2, 1) := by decide +kernel
theorem dX3_markBy_3 : decode cX3_markBy 3 = .ok (.aload_n 1, 1) := by decide +kernel
theorem dX3_markBy_4 : decode cX3_markBy 4 = .ok (.getfield 43, 3) := by decide +kernel
theorem dX3_markBy_7 : decode cX3_markBy 7 = .ok (.i2f, 1) := by decide +kernel
theorem dX3_markBy_8 : decode cX3_markBy 8 = .ok (.aload_n 0, 1) := by decide +kernel
theorem dX3_markBy_9 : decode cX3_markBy 9 = .ok (.getfield 7, 3) := by decide +kernel
theorem dX3_markBy_12 : decode cX3_markBy 12 = .ok (.fmul, 1) := by decide +kernel
theorem dX3_markBy_13 : decode cX3_markBy 13 = .ok (.fadd, 1) := by decide +kernel
theorem dX3_markBy_14 : decode cX3_markBy 14 = .ok (.fstore_n 2, 1) := by decide +kernel
theorem dX3_markBy_15 : decode cX3_markBy 15 = .ok (.fload_n 2, 1) := by decide +kernel
theorem dX3_markBy_16 : decode cX3_markBy 16 = .ok (.aload_n 1, 1) := by decide +kernel
theorem dX3_markBy_17 : decode cX3_markBy 17 = .ok (.getfield 47, 3) := by decide +kernel
theorem dX3_markBy_20 : decode cX3_markBy 20 = .ok (.i2f, 1) := by decide +kernel
theorem dX3_markBy_21 : decode cX3_markBy 21 = .ok (.aload_n 0, 1) := by decide +kernel
theorem dX3_markBy_22 : decode cX3_markBy 22 = .ok (.getfield 13, 3) := by decide +kernel
theorem dX3_markBy_25 : decode cX3_markBy 25 = .ok (.fmul, 1) := by decide +kernel
theorem dX3_markBy_26 : decode cX3_markBy 26 = .ok (.fadd, 1) := by decide +kernel
theorem dX3_markBy_27 : decode cX3_markBy 27 = .ok (.fstore_n 2, 1) := by decide +kernel
theorem dX3_markBy_28 : decode cX3_markBy 28 = .ok (.fload_n 2, 1) := by decide +kernel
theorem dX3_markBy_29 : decode cX3_markBy 29 = .ok (.aload_n 1, 1) := by decide +kernel
theorem dX3_markBy_30 : decode cX3_markBy 30 = .ok (.getfield 49, 3) := by decide +kernel
theorem dX3_markBy_33 : decode cX3_markBy 33 = .ok (.i2f, 1) := by decide +kernel
theorem dX3_markBy_34 : decode cX3_markBy 34 = .ok (.aload_n 0, 1) := by decide +kernel
theorem dX3_markBy_35 : decode cX3_markBy 35 = .ok (.getfield 16, 3) := by decide +kernel
theorem dX3_markBy_38 : decode cX3_markBy 38 = .ok (.fmul, 1) := by decide +kernel
theorem dX3_markBy_39 : decode cX3_markBy 39 = .ok (.fadd, 1) := by decide +kernel
theorem dX3_markBy_40 : decode cX3_markBy 40 = .ok (.fstore_n 2, 1) := by decide +kernel
theorem dX3_markBy_41 : decode cX3_markBy 41 = .ok (.fload_n 2, 1) := by decide +kernel
theorem dX3_markBy_42 : decode cX3_markBy 42 = .ok (.ldc 51, 2) := by decide +kernel
theorem dX3_markBy_44 : decode cX3_markBy 44 = .ok (.fdiv, 1) := by decide +kernel
theorem dX3_markBy_45 : decode cX3_markBy 45 = .ok (.freturn, 1) := by decide +kernel
theorem dX4_init_0 : decode cX4_init 0 = .ok (.aload_n 0, 1) := by decide +kernel
theorem dX4_init_1 : decode cX4_init 1 = .ok (.invokespecial 1, 3) := by decide +kernel
theorem dX4_init_4 : decode cX4_init 4 = .ok (.aload_n 0, 1) := by decide +kernel
theorem dX4_init_5 : decode cX4_init 5 = .ok (.iload_n 1, 1) := by decide +kernel
theorem dX4_init_6 : decode cX4_init 6 = .ok (.putfield 7, 3) := by decide +kernel
theorem dX4_init_9 : decode cX4_init 9 = .ok (.aload_n 0, 1) := by decide +kernel
theorem dX4_init_10 : decode cX4_init 10 = .ok (.iload_n 2, 1) := by decide +kernel
theorem dX4_init_11 : decode cX4_init 11 = .ok (.putfield 13, 3) := by decide +kernel
theorem dX4_init_14 : decode cX4_init 14 = .ok (.aload_n 0, 1) := by decide +kernel
theorem dX4_init_15 : decode cX4_init 15 = .ok (.iload_n 3, 1) := by decide +kernel
theorem dX4_init_16 : decode cX4_init 16 = .ok (.putfield 16, 3) := by decide +kernel
theorem dX4_init_19 : decode cX4_init 19 = .ok (.aload_n 0, 1) := by decide +kernel
theorem dX4_init_20 : decode cX4_init 20 = .ok (.iload 4, 2) := by decide +kernel
theorem dX4_init_22 : decode cX4_init 22 = .ok (.putfield 19, 3) := by decide +kernel
theorem dX4_init_25 : decode cX4_init 25 = .ok (.return_, 1) := by decide +kernel
theorem dX4_nearnessTo_0 : decode cX4_nearnessTo 0 = .ok (.aload_n 0, 1) := by decide +kernel
theorem dX4_nearnessTo_1 : decode cX4_nearnessTo 1 = .ok (.getfield 7, 3) := by decide +kernel
theorem dX4_nearnessTo_4 : decode cX4_nearnessTo 4 = .ok (.aload_n 1, 1) := by decide +kernel
theorem dX4_nearnessTo_5 : decode cX4_nearnessTo 5 = .ok (.getfield 7, 3) := by decide +kernel
theorem dX4_nearnessTo_8 : decode cX4_nearnessTo 8 = .ok (.isub, 1) := by decide +kernel
theorem dX4_nearnessTo_9 : decode cX4_nearnessTo 9 = .ok (.invokestatic 22, 3) := by decide +kernel
theorem dX4_nearnessTo_12 : decode cX4_nearnessTo 12 = .ok (.aload_n 0, 1) := by decide +kernel
theorem dX4_nearnessTo_13 : decode cX4_nearnessTo 13 = .ok (.getfield 13, 3) := by decide +kernel
theorem dX4_nearnessTo_16 : decode cX4_nearnessTo 16 = .ok (.aload_n 1, 1) := by decide +kernel
theorem dX4_nearnessTo_17 : decode cX4_nearnessTo 17 = .ok (.getfield 13, 3) := by decide +kernel
theorem dX4_nearnessTo_20 : decode cX4_nearnessTo 20 = .ok (.isub, 1) := by decide +kernel
theorem dX4_nearnessTo_21 : decode cX4_nearnessTo 21 = .ok (.invokestatic 22, 3) := by decide +kernel
theorem dX4_nearnessTo_24 : decode cX4_nearnessTo 24 = .ok (.iadd, 1) := by decide +kernel
theorem dX4_nearnessTo_25 : decode cX4_nearnessTo 25 = .ok (.aload_n 0, 1) := by decide +kernel
theorem dX4_nearnessTo_26 : decode cX4_nearnessTo 26 = .ok (.getfield 16, 3) := by decide +kernel
theorem dX4_nearnessTo_29 : decode cX4_nearnessTo 29 = .ok (.aload_n 1, 1) := by decide +kernel
theorem dX4_nearnessTo_30 : decode cX4_nearnessTo 30 = .ok (.getfield 16, 3) := by decide +kernel
theorem dX4_nearnessTo_33 : decode cX4_nearnessTo 33 = .ok (.isub, 1) := by decide +kernel
theorem dX4_nearnessTo_34 : decode cX4_nearnessTo 34 = .ok (.invokestatic 22, 3) := by decide +kernel
theorem dX4_nearnessTo_37 : decode cX4_nearnessTo 37 = .ok (.iadd, 1) := by decide +kernel
theorem dX4_nearnessTo_38 : decode cX4_nearnessTo 38 = .ok (.aload_n 0, 1) := by decide +kernel
theorem dX4_nearnessTo_39 : decode cX4_nearnessTo 39 = .ok (.getfield 19, 3) := by decide +kernel
theorem dX4_nearnessTo_42 : decode cX4_nearnessTo 42 = .ok (.aload_n 1, 1) := by decide +kernel
theorem dX4_nearnessTo_43 : decode cX4_nearnessTo 43 = .ok (.getfield 19, 3) := by decide +kernel
theorem dX4_nearnessTo_46 : decode cX4_nearnessTo 46 = .ok (.isub, 1) := by decide +kernel
theorem dX4_nearnessTo_47 : decode cX4_nearnessTo 47 = .ok (.invokestatic 22, 3) := by decide +kernel
theorem dX4_nearnessTo_50 : decode cX4_nearnessTo 50 = .ok (.iadd, 1) := by decide +kernel
theorem dX4_nearnessTo_51 : decode cX4_nearnessTo 51 = .ok (.istore_n 3, 1) := by decide +kernel
theorem dX4_nearnessTo_52 : decode cX4_nearnessTo 52 = .ok (.ldc 28, 2) := by decide +kernel
theorem dX4_nearnessTo_54 : decode cX4_nearnessTo 54 = .ok (.iload_n 3, 1) := by decide +kernel
theorem dX4_nearnessTo_55 : decode cX4_nearnessTo 55 = .ok (.i2f, 1) := by decide +kernel
theorem dX4_nearnessTo_56 : decode cX4_nearnessTo 56 = .ok (.ldc 28, 2) := by decide +kernel
theorem dX4_nearnessTo_58 : decode cX4_nearnessTo 58 = .ok (.fdiv, 1) := by decide +kernel
theorem dX4_nearnessTo_59 : decode cX4_nearnessTo 59 = .ok (.fsub, 1) := by decide +kernel
theorem dX4_nearnessTo_60 : decode cX4_nearnessTo 60 = .ok (.fstore 4, 2) := by decide +kernel
theorem dX4_nearnessTo_62 : decode cX4_nearnessTo 62 = .ok (.fload 4, 2) := by decide +kernel
theorem dX4_nearnessTo_64 : decode cX4_nearnessTo 64 = .ok (.fconst 0, 1) := by decide +kernel
theorem dX4_nearnessTo_65 : decode cX4_nearnessTo 65 = .ok (.fcmp .g, 1) := by decide +kernel
theorem dX4_nearnessTo_66 : decode cX4_nearnessTo 66 = .ok (.ifCond .ge 7, 3) := by decide +kernel
theorem dX4_nearnessTo_69 : decode cX4_nearnessTo 69 = .ok (.fconst 0, 1) := by decide +kernel
theorem dX4_nearnessTo_70 : decode cX4_nearnessTo 70 = .ok (.goto 5, 3) := by decide +kernel
theorem dX4_nearnessTo_73 : decode cX4_nearnessTo 73 = .ok (.fload 4, 2) := by decide +kernel
theorem dX4_nearnessTo_75 : decode cX4_nearnessTo 75 = .ok (.fstore 4, 2) := by decide +kernel
theorem dX4_nearnessTo_77 : decode cX4_nearnessTo 77 = .ok (.fload 4, 2) := by decide +kernel
theorem dX4_nearnessTo_79 : decode cX4_nearnessTo 79 = .ok (.fconst 1, 1) := by decide +kernel
theorem dX4_nearnessTo_80 : decode cX4_nearnessTo 80 = .ok (.iload_n 2, 1) := by decide +kernel
theorem dX4_nearnessTo_81 : decode cX4_nearnessTo 81 = .ok (.i2f, 1) := by decide +kernel
theorem dX4_nearnessTo_82 : decode cX4_nearnessTo 82 = .ok (.ldc 29, 2) := by decide +kernel
theorem dX4_nearnessTo_84 : decode cX4_nearnessTo 84 = .ok (.fdiv, 1) := by decide +kernel
theorem dX4_nearnessTo_85 : decode cX4_nearnessTo 85 = .ok (.fsub, 1) := by decide +kernel
theorem dX4_nearnessTo_86 : decode cX4_nearnessTo 86 = .ok (.fmul, 1) := by decide +kernel
theorem dX4_nearnessTo_87 : decode cX4_nearnessTo 87 = .ok (.freturn, 1) := by decide +kernel
set_option maxRecDepth 20000 in
theorem ggX4_slopeTo_X4_squaredWay : GoodIn wsX4_slopeTo wsX4_squaredWay := goodIn_r _ [10, 1, 2, 3, 4, 11, 12, 13, 14] (by decide +kernel) (by decide +kernel)
set_option maxRecDepth 20000 in
theorem gX4_slopeTo_X4_squaredWay : GoodIn wsX4_slopeTo (wsV RX4 30 RX4 yX4_squaredWay wsX4_squaredWay) := goodIn_app (goodIn_of _ (by decide +kernel)) ggX4_slopeTo_X4_squaredWay
theorem dX4_slopeTo_0 : decode cX4_slopeTo 0 = .ok (.aload_n 0, 1) := by decide +kernel
theorem dX4_slopeTo_1 : decode cX4_slopeTo 1 = .ok (.invokevirtual 30, 3) := by decide +kernel
theorem dX4_slopeTo_4 : decode cX4_slopeTo 4 = .ok (.i2f, 1) := by decide +kernel
theorem dX4_slopeTo_5 : decode cX4_slopeTo 5 = .ok (.fstore_n 2, 1) := by decide +kernel
theorem dX4_slopeTo_6 : decode cX4_slopeTo 6 = .ok (.aload_n 1, 1) := by decide +kernel
theorem dX4_slopeTo_7 : decode cX4_slopeTo 7 = .ok (.invokevirtual 30, 3) := by decide +kernel
theorem dX4_slopeTo_10 : decode cX4_slopeTo 10 = .ok (.i2f, 1) := by decide +kernel
theorem dX4_slopeTo_11 : decode cX4_slopeTo 11 = .ok (.fstore_n 3, 1) := by decide +kernel
theorem dX4_slopeTo_12 : decode cX4_slopeTo 12 = .ok (.fload_n 2, 1) := by decide +kernel
theorem dX4_slopeTo_13 : decode cX4_slopeTo 13 = .ok (.fconst 0, 1) := by decide +kernel
theorem dX4_slopeTo_14 : decode cX4_slopeTo 14 = .ok (.fcmp .g, 1) := by decide +kernel
theorem dX4_slopeTo_15 : decode cX4_slopeTo 15 = .ok (.ifCond .le 9, 3) := by decide +kernel
theorem dX4_slopeTo_18 : decode cX4_slopeTo 18 = .ok (.fload_n 3, 1) := by decide +kernel
theorem dX4_slopeTo_19 : decode cX4_slopeTo 19 = .ok (.fconst 0, 1) := by decide +kernel
theorem dX4_slopeTo_20 : decode cX4_slopeTo 20 = .ok (.fcmp .g, 1) := by decide +kernel
theorem dX4_slopeTo_21 : decode cX4_slopeTo 21 = .ok (.ifCond .gt 5, 3) := by decide +kernel
theorem dX4_slopeTo_24 : decode cX4_slopeTo 24 = .ok (.fconst 0, 1) := by decide +kernel
theorem dX4_slopeTo_25 : decode cX4_slopeTo 25 = .ok (.freturn, 1) := by decide +kernel
theorem dX4_slopeTo_26 : decode cX4_slopeTo 26 = .ok (.aload_n 0, 1) := by decide +kernel
theorem dX4_slopeTo_27 : decode cX4_slopeTo 27 = .ok (.getfield 16, 3) := by decide +kernel
theorem dX4_slopeTo_30 : decode cX4_slopeTo 30 = .ok (.aload_n 0, 1) := by decide +kernel
theorem dX4_slopeTo_31 : decode cX4_slopeTo 31 = .ok (.getfield 7, 3) := by decide +kernel
theorem dX4_slopeTo_34 : decode cX4_slopeTo 34 = .ok (.isub, 1) := by decide +kernel
theorem dX4_slopeTo_35 : decode cX4_slopeTo 35 = .ok (.aload_n 1, 1) := by decide +kernel
theorem dX4_slopeTo_36 : decode cX4_slopeTo 36 = .ok (.getfield 16, 3) := by decide +kernel
theorem dX4_slopeTo_39 : decode cX4_slopeTo 39 = .ok (.aload_n 1, 1) := by decide +kernel
theorem dX4_slopeTo_40 : decode cX4_slopeTo 40 = .ok (.getfield 7, 3) := by decide +kernel
theorem dX4_slopeTo_43 : decode cX4_slopeTo 43 = .ok (.isub, 1) := by decide +kernel
theorem dX4_slopeTo_44 : decode cX4_slopeTo 44 = .ok (.imul, 1) := by decide +kernel
theorem dX4_slopeTo_45 : decode cX4_slopeTo 45 = .ok (.aload_n 0, 1) := by decide +kernel
theorem dX4_slopeTo_46 : decode cX4_slopeTo 46 = .ok (.getfield 19, 3) := by decide +kernel
theorem dX4_slopeTo_49 : decode cX4_slopeTo 49 = .ok (.aload_n 0, 1) := by decide +kernel
theorem dX4_slopeTo_50 : decode cX4_slopeTo 50 = .ok (.getfield 13, 3) := by decide +kernel
theorem dX4_slopeTo_53 : decode cX4_slopeTo 53 = .ok (.isub, 1) := by decide +kernel
theorem dX4_slopeTo_54 : decode cX4_slopeTo 54 = .ok (.aload_n 1, 1) := by decide +kernel
theorem dX4_slopeTo_55 : decode cX4_slopeTo 55 = .ok (.getfield 19, 3) := by decide +kernel
theorem dX4_slopeTo_58 : decode cX4_slopeTo 58 = .ok (.aload_n 1, 1) := by decide +kernel
theorem dX4_slopeTo_59 : decode cX4_slopeTo 59 = .ok (.getfield 13, 3) := by decide +kernel
theorem dX4_slopeTo_62 : decode cX4_slopeTo 62 = .ok (.isub, 1) := by decide +kernel
theorem dX4_slopeTo_63 : decode cX4_slopeTo 63 = .ok (.imul, 1) := by decide +kernel
theorem dX4_slopeTo_64 : decode cX4_slopeTo 64 = .ok (.iadd, 1) := by decide +kernel
theorem dX4_slopeTo_65 : decode cX4_slopeTo 65 = .ok (.i2f, 1) := by decide +kernel
theorem dX4_slopeTo_66 : decode cX4_slopeTo 66 = .ok (.fstore 4, 2) := by decide +kernel
theorem dX4_slopeTo_68 : decode cX4_slopeTo 68 = .ok (.fload 4, 2) := by decide +kernel
theorem dX4_slopeTo_70 : decode cX4_slopeTo 70 = .ok (.fconst 0, 1) := by decide +kernel
theorem dX4_slopeTo_71 : decode cX4_slopeTo 71 = .ok (.fcmp .g, 1) := by decide +kernel
theorem dX4_slopeTo_72 : decode cX4_slopeTo 72 = .ok (.ifCond .ge 9, 3) := by decide +kernel
