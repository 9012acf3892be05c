theorem dX4_slopeTo_75 : decode cX4_slopeTo 75 = .ok (.fload 4, 2) := by decide +kernel
theorem dX4_slopeTo_77 : decode cX4_slopeTo 77 = .ok (.fneg, 1) := by decide +kernel
theorem dX4_slopeTo_78 : decode cX4_slopeTo 78 = .ok (.goto 5, 3) := by decide +kernel
theorem dX4_slopeTo_81 : decode cX4_slopeTo 81 = .ok (.fload 4, 2) := by decide +kernel
theorem dX4_slopeTo_83 : decode cX4_slopeTo 83 = .ok (.fstore 5, 2) := by decide +kernel
theorem dX4_slopeTo_85 : decode cX4_slopeTo 85 = .ok (.fload 4, 2) := by decide +kernel
theorem dX4_slopeTo_87 : decode cX4_slopeTo 87 = .ok (.fload 5, 2) := by decide +kernel
theorem dX4_slopeTo_89 : decode cX4_slopeTo 89 = .ok (.fmul, 1) := by decide +kernel
theorem dX4_slopeTo_90 : decode cX4_slopeTo 90 = .ok (.fload_n 2, 1) := by decide +kernel
theorem dX4_slopeTo_91 : decode cX4_slopeTo 91 = .ok (.fdiv, 1) := by decide +kernel
theorem dX4_slopeTo_92 : decode cX4_slopeTo 92 = .ok (.fload_n 3, 1) := by decide +kernel
theorem dX4_slopeTo_93 : decode cX4_slopeTo 93 = .ok (.fdiv, 1) := by decide +kernel
theorem dX4_slopeTo_94 : decode cX4_slopeTo 94 = .ok (.ldc 28, 2) := by decide +kernel
theorem dX4_slopeTo_96 : decode cX4_slopeTo 96 = .ok (.fmul, 1) := by decide +kernel
theorem dX4_slopeTo_97 : decode cX4_slopeTo 97 = .ok (.fstore 6, 2) := by decide +kernel
theorem dX4_slopeTo_99 : decode cX4_slopeTo 99 = .ok (.fload 6, 2) := by decide +kernel
theorem dX4_slopeTo_101 : decode cX4_slopeTo 101 = .ok (.fconst 0, 1) := by decide +kernel
theorem dX4_slopeTo_102 : decode cX4_slopeTo 102 = .ok (.fcmp .g, 1) := by decide +kernel
theorem dX4_slopeTo_103 : decode cX4_slopeTo 103 = .ok (.ifCond .ge 7, 3) := by decide +kernel
theorem dX4_slopeTo_106 : decode cX4_slopeTo 106 = .ok (.fconst 0, 1) := by decide +kernel
theorem dX4_slopeTo_107 : decode cX4_slopeTo 107 = .ok (.goto 5, 3) := by decide +kernel
theorem dX4_slopeTo_110 : decode cX4_slopeTo 110 = .ok (.fload 6, 2) := by decide +kernel
theorem dX4_slopeTo_112 : decode cX4_slopeTo 112 = .ok (.freturn, 1) := by decide +kernel
theorem dX4_squaredWay_0 : decode cX4_squaredWay 0 = .ok (.aload_n 0, 1) := by decide +kernel
theorem dX4_squaredWay_1 : decode cX4_squaredWay 1 = .ok (.getfield 16, 3) := by decide +kernel
theorem dX4_squaredWay_4 : decode cX4_squaredWay 4 = .ok (.aload_n 0, 1) := by decide +kernel
theorem dX4_squaredWay_5 : decode cX4_squaredWay 5 = .ok (.getfield 7, 3) := by decide +kernel
theorem dX4_squaredWay_8 : decode cX4_squaredWay 8 = .ok (.isub, 1) := by decide +kernel
theorem dX4_squaredWay_9 : decode cX4_squaredWay 9 = .ok (.aload_n 0, 1) := by decide +kernel
theorem dX4_squaredWay_10 : decode cX4_squaredWay 10 = .ok (.getfield 16, 3) := by decide +kernel
theorem dX4_squaredWay_13 : decode cX4_squaredWay 13 = .ok (.aload_n 0, 1) := by decide +kernel
theorem dX4_squaredWay_14 : decode cX4_squaredWay 14 = .ok (.getfield 7, 3) := by decide +kernel
theorem dX4_squaredWay_17 : decode cX4_squaredWay 17 = .ok (.isub, 1) := by decide +kernel
theorem dX4_squaredWay_18 : decode cX4_squaredWay 18 = .ok (.imul, 1) := by decide +kernel
theorem dX4_squaredWay_19 : decode cX4_squaredWay 19 = .ok (.aload_n 0, 1) := by decide +kernel
theorem dX4_squaredWay_20 : decode cX4_squaredWay 20 = .ok (.getfield 19, 3) := by decide +kernel
theorem dX4_squaredWay_23 : decode cX4_squaredWay 23 = .ok (.aload_n 0, 1) := by decide +kernel
theorem dX4_squaredWay_24 : decode cX4_squaredWay 24 = .ok (.getfield 13, 3) := by decide +kernel
theorem dX4_squaredWay_27 : decode cX4_squaredWay 27 = .ok (.isub, 1) := by decide +kernel
theorem dX4_squaredWay_28 : decode cX4_squaredWay 28 = .ok (.aload_n 0, 1) := by decide +kernel
theorem dX4_squaredWay_29 : decode cX4_squaredWay 29 = .ok (.getfield 19, 3) := by decide +kernel
theorem dX4_squaredWay_32 : decode cX4_squaredWay 32 = .ok (.aload_n 0, 1) := by decide +kernel
theorem dX4_squaredWay_33 : decode cX4_squaredWay 33 = .ok (.getfield 13, 3) := by decide +kernel
theorem dX4_squaredWay_36 : decode cX4_squaredWay 36 = .ok (.isub, 1) := by decide +kernel
theorem dX4_squaredWay_37 : decode cX4_squaredWay 37 = .ok (.imul, 1) := by decide +kernel
theorem dX4_squaredWay_38 : decode cX4_squaredWay 38 = .ok (.iadd, 1) := by decide +kernel
theorem dX4_squaredWay_39 : decode cX4_squaredWay 39 = .ok (.ireturn, 1) := by decide +kernel
theorem dX5_init_0 : decode cX5_init 0 = .ok (.aload_n 0, 1) := by decide +kernel
theorem dX5_init_1 : decode cX5_init 1 = .ok (.invokespecial 3, 3) := by decide +kernel
theorem dX5_init_4 : decode cX5_init 4 = .ok (.aload_n 0, 1) := by decide +kernel
theorem dX5_init_5 : decode cX5_init 5 = .ok (.bipush 8, 2) := by decide +kernel
theorem dX5_init_7 : decode cX5_init 7 = .ok (.anewarray 9, 3) := by decide +kernel
theorem dX5_init_10 : decode cX5_init 10 = .ok (.putfield 11, 3) := by decide +kernel
theorem dX5_init_13 : decode cX5_init 13 = .ok (.return_, 1) := by decide +kernel
theorem dX5_add_0 : decode cX5_add 0 = .ok (.aload_n 0, 1) := by decide +kernel
theorem dX5_add_1 : decode cX5_add 1 = .ok (.getfield 17, 3) := by decide +kernel
theorem dX5_add_4 : decode cX5_add 4 = .ok (.ifCond .lt 35, 3) := by decide +kernel
theorem dX5_add_7 : decode cX5_add 7 = .ok (.aload_n 0, 1) := by decide +kernel
theorem dX5_add_8 : decode cX5_add 8 = .ok (.getfield 17, 3) := by decide +kernel
theorem dX5_add_11 : decode cX5_add 11 = .ok (.aload_n 0, 1) := by decide +kernel
theorem dX5_add_12 : decode cX5_add 12 = .ok (.getfield 11, 3) := by decide +kernel
theorem dX5_add_15 : decode cX5_add 15 = .ok (.arraylength, 1) := by decide +kernel
theorem dX5_add_16 : decode cX5_add 16 = .ok (.if_icmp .ge 23, 3) := by decide +kernel
theorem dX5_add_19 : decode cX5_add 19 = .ok (.aload_n 0, 1) := by decide +kernel
theorem dX5_add_20 : decode cX5_add 20 = .ok (.getfield 11, 3) := by decide +kernel
theorem dX5_add_23 : decode cX5_add 23 = .ok (.aload_n 0, 1) := by decide +kernel
theorem dX5_add_24 : decode cX5_add 24 = .ok (.getfield 17, 3) := by decide +kernel
theorem dX5_add_27 : decode cX5_add 27 = .ok (.aload_n 1, 1) := by decide +kernel
theorem dX5_add_28 : decode cX5_add 28 = .ok (.aastore, 1) := by decide +kernel
theorem dX5_add_29 : decode cX5_add 29 = .ok (.aload_n 0, 1) := by decide +kernel
theorem dX5_add_30 : decode cX5_add 30 = .ok (.dup, 1) := by decide +kernel
theorem dX5_add_31 : decode cX5_add 31 = .ok (.getfield 17, 3) := by decide +kernel
theorem dX5_add_34 : decode cX5_add 34 = .ok (.iconst 1, 1) := by decide +kernel
theorem dX5_add_35 : decode cX5_add 35 = .ok (.iadd, 1) := by decide +kernel
theorem dX5_add_36 : decode cX5_add 36 = .ok (.putfield 17, 3) := by decide +kernel
theorem dX5_add_39 : decode cX5_add 39 = .ok (.return_, 1) := by decide +kernel
theorem dX5_empty_0 : decode cX5_empty 0 = .ok (.aload_n 0, 1) := by decide +kernel
theorem dX5_empty_1 : decode cX5_empty 1 = .ok (.iconst 0, 1) := by decide +kernel
theorem dX5_empty_2 : decode cX5_empty 2 = .ok (.putfield 17, 3) := by decide +kernel
theorem dX5_empty_5 : decode cX5_empty 5 = .ok (.return_, 1) := by decide +kernel
theorem dX5_at_0 : decode cX5_at 0 = .ok (.iload_n 1, 1) := by decide +kernel
theorem dX5_at_1 : decode cX5_at 1 = .ok (.ifCond .lt 29, 3) := by decide +kernel
theorem dX5_at_4 : decode cX5_at 4 = .ok (.iload_n 1, 1) := by decide +kernel
theorem dX5_at_5 : decode cX5_at 5 = .ok (.aload_n 0, 1) := by decide +kernel
theorem dX5_at_6 : decode cX5_at 6 = .ok (.getfield 17, 3) := by decide +kernel
theorem dX5_at_9 : decode cX5_at 9 = .ok (.if_icmp .ge 21, 3) := by decide +kernel
theorem dX5_at_12 : decode cX5_at 12 = .ok (.iload_n 1, 1) := by decide +kernel
theorem dX5_at_13 : decode cX5_at 13 = .ok (.aload_n 0, 1) := by decide +kernel
theorem dX5_at_14 : decode cX5_at 14 = .ok (.getfield 11, 3) := by decide +kernel
theorem dX5_at_17 : decode cX5_at 17 = .ok (.arraylength, 1) := by decide +kernel
theorem dX5_at_18 : decode cX5_at 18 = .ok (.if_icmp .ge 12, 3) := by decide +kernel
theorem dX5_at_21 : decode cX5_at 21 = .ok (.aload_n 0, 1) := by decide +kernel
theorem dX5_at_22 : decode cX5_at 22 = .ok (.getfield 11, 3) := by decide +kernel
theorem dX5_at_25 : decode cX5_at 25 = .ok (.iload_n 1, 1) := by decide +kernel
theorem dX5_at_26 : decode cX5_at 26 = .ok (.aaload, 1) := by decide +kernel
theorem dX5_at_27 : decode cX5_at 27 = .ok (.goto 4, 3) := by decide +kernel
theorem dX5_at_30 : decode cX5_at 30 = .ok (.aconst_null, 1) := by decide +kernel
theorem dX5_at_31 : decode cX5_at 31 = .ok (.areturn, 1) := by decide +kernel
theorem dX6_init_0 : decode cX6_init 0 = .ok (.aload_n 0, 1) := by decide +kernel
theorem dX6_init_1 : decode cX6_init 1 = .ok (.invokespecial 1, 3) := by decide +kernel
theorem dX6_init_4 : decode cX6_init 4 = .ok (.return_, 1) := by decide +kernel
set_option maxRecDepth 20000 in
theorem ggX7_init_X3_between : GoodIn wsX7_init wsX3_between := goodIn_r _ [12, 13, 14, 15, 16, 11, 17, 18, 19, 20, 21, 22, 23, 24, 25, 26, 27, 28, 29, 30, 31, 32, 33, 34, 35, 36, 37, 38, 39, 40, 41, 42, 43, 44, 45, 46, 47, 48, 49, 50, 2, 3, 51, 52, 53, 58, 59, 60, 61, 62, 63, 64, 65, 66] (by decide +kernel) (by decide +kernel)
set_option maxRecDepth 20000 in
theorem gX7_init_X3_between : GoodIn wsX7_init (va_wsS RX7 30 yX3_between wsX3_between) := goodIn_app (goodIn_of _ (by decide +kernel)) ggX7_init_X3_between
theorem dX7_init_0 : decode cX7_init 0 = .ok (.aload_n 0, 1) := by decide +kernel
theorem dX7_init_1 : decode cX7_init 1 = .ok (.invokespecial 3, 3) := by decide +kernel
theorem dX7_init_4 : decode cX7_init 4 = .ok (.aload_n 0, 1) := by decide +kernel
theorem dX7_init_5 : decode cX7_init 5 = .ok (.bipush 6, 2) := by decide +kernel
theorem dX7_init_7 : decode cX7_init 7 = .ok (.anewarray 9, 3) := by decide +kernel
theorem dX7_init_10 : decode cX7_init 10 = .ok (.putfield 11, 3) := by decide +kernel
theorem dX7_init_13 : decode cX7_init 13 = .ok (.aload_n 0, 1) := by decide +kernel
theorem dX7_init_14 : decode cX7_init 14 = .ok (.aload_n 2, 1) := by decide +kernel
theorem dX7_init_15 : decode cX7_init 15 = .ok (.getfield 17, 3) := by decide +kernel
theorem dX7_init_18 : decode cX7_init 18 = .ok (.putfield 23, 3) := by decide +kernel
theorem dX7_init_21 : decode cX7_init 21 = .ok (.aload_n 0, 1) := by decide +kernel
theorem dX7_init_22 : decode cX7_init 22 = .ok (.iload 4, 2) := by decide +kernel
theorem dX7_init_24 : decode cX7_init 24 = .ok (.putfield 26, 3) := by decide +kernel
theorem dX7_init_27 : decode cX7_init 27 = .ok (.iconst 0, 1) := by decide +kernel
theorem dX7_init_28 : decode cX7_init 28 = .ok (.istore 5, 2) := by decide +kernel
theorem dX7_init_30 : decode cX7_init 30 = .ok (.iload 5, 2) := by decide +kernel
theorem dX7_init_32 : decode cX7_init 32 = .ok (.aload_n 0, 1) := by decide +kernel
theorem dX7_init_33 : decode cX7_init 33 = .ok (.getfield 11, 3) := by decide +kernel
theorem dX7_init_36 : decode cX7_init 36 = .ok (.arraylength, 1) := by decide +kernel
theorem dX7_init_37 : decode cX7_init 37 = .ok (.if_icmp .ge 24, 3) := by decide +kernel
theorem dX7_init_40 : decode cX7_init 40 = .ok (.aload_n 0, 1) := by decide +kernel
theorem dX7_init_41 : decode cX7_init 41 = .ok (.getfield 11, 3) := by decide +kernel
theorem dX7_init_44 : decode cX7_init 44 = .ok (.iload 5, 2) := by decide +kernel
theorem dX7_init_46 : decode cX7_init 46 = .ok (.aload_n 1, 1) := by decide +kernel
theorem dX7_init_47 : decode cX7_init 47 = .ok (.aload_n 2, 1) := by decide +kernel
theorem dX7_init_48 : decode cX7_init 48 = .ok (.iload 5, 2) := by decide +kernel
theorem dX7_init_50 : decode cX7_init 50 = .ok (.iload_n 3, 1) := by decide +kernel
theorem dX7_init_51 : decode cX7_init 51 = .ok (.invokestatic 30, 3) := by decide +kernel
theorem dX7_init_54 : decode cX7_init 54 = .ok (.aastore, 1) := by decide +kernel
theorem dX7_init_55 : decode cX7_init 55 = .ok (.iinc 5 1, 3) := by decide +kernel
theorem dX7_init_58 : decode cX7_init 58 = .ok (.goto (-28), 3) := by decide +kernel
theorem dX7_init_61 : decode cX7_init 61 = .ok (.return_, 1) := by decide +kernel
set_option maxRecDepth 20000 in
theorem ggX7_markBy_X3_markBy : GoodIn wsX7_markBy wsX3_markBy := goodIn_r _ [7, 8, 9, 10, 11, 12, 13, 14, 19, 20, 21, 22, 23, 24] (by decide +kernel) (by decide +kernel)
set_option maxRecDepth 20000 in
theorem gX7_markBy_X3_markBy : GoodIn wsX7_markBy (wsV RX7 34 RX3 yX3_markBy wsX3_markBy) := goodIn_app (goodIn_of _ (by decide +kernel)) ggX7_markBy_X3_markBy
theorem dX7_markBy_0 : decode cX7_markBy 0 = .ok (.aload_n 0, 1) := by decide +kernel
theorem dX7_markBy_1 : decode cX7_markBy 1 = .ok (.getfield 23, 3) := by decide +kernel
theorem dX7_markBy_4 : decode cX7_markBy 4 = .ok (.ifCond .gt 5, 3) := by decide +kernel
theorem dX7_markBy_7 : decode cX7_markBy 7 = .ok (.fconst 0, 1) := by decide +kernel
theorem dX7_markBy_8 : decode cX7_markBy 8 = .ok (.freturn, 1) := by decide +kernel
theorem dX7_markBy_9 : decode cX7_markBy 9 = .ok (.fconst 0, 1) := by decide +kernel
theorem dX7_markBy_10 : decode cX7_markBy 10 = .ok (.fstore_n 2, 1) := by decide +kernel
theorem dX7_markBy_11 : decode cX7_markBy 11 = .ok (.iconst 0, 1) := by decide +kernel
theorem dX7_markBy_12 : decode cX7_markBy 12 = .ok (.istore_n 3, 1) := by decide +kernel
theorem dX7_markBy_13 : decode cX7_markBy 13 = .ok (.iload_n 3, 1) := by decide +kernel
theorem dX7_markBy_14 : decode cX7_markBy 14 = .ok (.aload_n 0, 1) := by decide +kernel
theorem dX7_markBy_15 : decode cX7_markBy 15 = .ok (.getfield 11, 3) := by decide +kernel
theorem dX7_markBy_18 : decode cX7_markBy 18 = .ok (.arraylength, 1) := by decide +kernel
theorem dX7_markBy_19 : decode cX7_markBy 19 = .ok (.if_icmp .ge 31, 3) := by decide +kernel
theorem dX7_markBy_22 : decode cX7_markBy 22 = .ok (.aload_n 0, 1) := by decide +kernel
theorem dX7_markBy_23 : decode cX7_markBy 23 = .ok (.getfield 11, 3) := by decide +kernel
theorem dX7_markBy_26 : decode cX7_markBy 26 = .ok (.iload_n 3, 1) := by decide +kernel
theorem dX7_markBy_27 : decode cX7_markBy 27 = .ok (.aaload, 1) := by decide +kernel
theorem dX7_markBy_28 : decode cX7_markBy 28 = .ok (.ifnull 16, 3) := by decide +kernel
theorem dX7_markBy_31 : decode cX7_markBy 31 = .ok (.fload_n 2, 1) := by decide +kernel
theorem dX7_markBy_32 : decode cX7_markBy 32 = .ok (.aload_n 0, 1) := by decide +kernel
theorem dX7_markBy_33 : decode cX7_markBy 33 = .ok (.getfield 11, 3) := by decide +kernel
theorem dX7_markBy_36 : decode cX7_markBy 36 = .ok (.iload_n 3, 1) := by decide +kernel
theorem dX7_markBy_37 : decode cX7_markBy 37 = .ok (.aaload, 1) := by decide +kernel
theorem dX7_markBy_38 : decode cX7_markBy 38 = .ok (.aload_n 1, 1) := by decide +kernel
theorem dX7_markBy_39 : decode cX7_markBy 39 = .ok (.invokevirtual 34, 3) := by decide +kernel
theorem dX7_markBy_42 : decode cX7_markBy 42 = .ok (.fadd, 1) := by decide +kernel
theorem dX7_markBy_43 : decode cX7_markBy 43 = .ok (.fstore_n 2, 1) := by decide +kernel
theorem dX7_markBy_44 : decode cX7_markBy 44 = .ok (.iinc 3 1, 3) := by decide +kernel
theorem dX7_markBy_47 : decode cX7_markBy 47 = .ok (.goto (-34), 3) := by decide +kernel
theorem dX7_markBy_50 : decode cX7_markBy 50 = .ok (.fload_n 2, 1) := by decide +kernel
theorem dX7_markBy_51 : decode cX7_markBy 51 = .ok (.aload_n 0, 1) := by decide +kernel
theorem dX7_markBy_52 : decode cX7_markBy 52 = .ok (.getfield 23, 3) := by decide +kernel
theorem dX7_markBy_55 : decode cX7_markBy 55 = .ok (.i2f, 1) := by decide +kernel
theorem dX7_markBy_56 : decode cX7_markBy 56 = .ok (.fdiv, 1) := by decide +kernel
theorem dX7_markBy_57 : decode cX7_markBy 57 = .ok (.freturn, 1) := by decide +kernel
set_option maxRecDepth 20000 in
theorem ggX8_init_X5_init : GoodIn wsX8_init wsX5_init := goodIn_r _ [24, 25, 2, 3, 26, 27, 50, 51] (by decide +kernel) (by decide +kernel)
set_option maxRecDepth 20000 in
theorem gX8_init_X5_init_n39 : GoodIn wsX8_init (wsX5_init) := ggX8_init_X5_init
set_option maxRecDepth 20000 in
theorem ggX8_init_X2_init : GoodIn wsX8_init wsX2_init := goodIn_r _ [29, 30, 2, 3] (by decide +kernel) (by decide +kernel)
set_option maxRecDepth 20000 in
theorem gX8_init_X2_init_n44 : GoodIn wsX8_init (wsX2_init) := ggX8_init_X2_init
set_option maxRecDepth 20000 in
theorem ggX8_init_X6_init : GoodIn wsX8_init wsX6_init := goodIn_r _ [32, 33, 2, 3] (by decide +kernel) (by decide +kernel)
set_option maxRecDepth 20000 in
theorem gX8_init_X6_init_n45 : GoodIn wsX8_init (wsX6_init) := ggX8_init_X6_init
set_option maxRecDepth 20000 in
theorem ggX8_init_X1_init : GoodIn wsX8_init wsX1_init := goodIn_r _ [36, 37, 2, 3, 38, 39, 58] (by decide +kernel) (by decide +kernel)
set_option maxRecDepth 20000 in
theorem gX8_init_X1_init : GoodIn wsX8_init (wsX1_init) := ggX8_init_X1_init
theorem dX8_init_0 : decode cX8_init 0 = .ok (.aload_n 0, 1) := by decide +kernel
theorem dX8_init_1 : decode cX8_init 1 = .ok (.invokespecial 1, 3) := by decide +kernel
theorem dX8_init_4 : decode cX8_init 4 = .ok (.aload_n 0, 1) := by decide +kernel
theorem dX8_init_5 : decode cX8_init 5 = .ok (.bipush 6, 2) := by decide +kernel
theorem dX8_init_7 : decode cX8_init 7 = .ok (.anewarray 9, 3) := by decide +kernel
theorem dX8_init_10 : decode cX8_init 10 = .ok (.putfield 11, 3) := by decide +kernel
theorem dX8_init_13 : decode cX8_init 13 = .ok (.aload_n 0, 1) := by decide +kernel
theorem dX8_init_14 : decode cX8_init 14 = .ok (.iconst 3, 1) := by decide +kernel
theorem dX8_init_15 : decode cX8_init 15 = .ok (.anewarray 15, 3) := by decide +kernel
theorem dX8_init_18 : decode cX8_init 18 = .ok (.putfield 17, 3) := by decide +kernel
theorem dX8_init_21 : decode cX8_init 21 = .ok (.aload_n 0, 1) := by decide +kernel
theorem dX8_init_22 : decode cX8_init 22 = .ok (.iconst 4, 1) := by decide +kernel
theorem dX8_init_23 : decode cX8_init 23 = .ok (.anewarray 21, 3) := by decide +kernel
theorem dX8_init_26 : decode cX8_init 26 = .ok (.putfield 23, 3) := by decide +kernel
theorem dX8_init_29 : decode cX8_init 29 = .ok (.aload_n 0, 1) := by decide +kernel
theorem dX8_init_30 : decode cX8_init 30 = .ok (.iconst 4, 1) := by decide +kernel
theorem dX8_init_31 : decode cX8_init 31 = .ok (.anewarray 27, 3) := by decide +kernel
theorem dX8_init_34 : decode cX8_init 34 = .ok (.putfield 29, 3) := by decide +kernel
theorem dX8_init_37 : decode cX8_init 37 = .ok (.aload_n 0, 1) := by decide +kernel
theorem dX8_init_38 : decode cX8_init 38 = .ok (.bipush 12, 2) := by decide +kernel
theorem dX8_init_40 : decode cX8_init 40 = .ok (.anewarray 33, 3) := by decide +kernel
theorem dX8_init_43 : decode cX8_init 43 = .ok (.putfield 35, 3) := by decide +kernel
theorem dX8_init_46 : decode cX8_init 46 = .ok (.aload_n 0, 1) := by decide +kernel
theorem dX8_init_47 : decode cX8_init 47 = .ok (.new 9, 3) := by decide +kernel
theorem dX8_init_50 : decode cX8_init 50 = .ok (.dup, 1) := by decide +kernel
theorem dX8_init_51 : decode cX8_init 51 = .ok (.invokespecial 39, 3) := by decide +kernel
theorem dX8_init_54 : decode cX8_init 54 = .ok (.putfield 40, 3) := by decide +kernel
theorem dX8_init_57 : decode cX8_init 57 = .ok (.iconst 0, 1) := by decide +kernel
theorem dX8_init_58 : decode cX8_init 58 = .ok (.istore_n 1, 1) := by decide +kernel
theorem dX8_init_59 : decode cX8_init 59 = .ok (.iload_n 1, 1) := by decide +kernel
theorem dX8_init_60 : decode cX8_init 60 = .ok (.aload_n 0, 1) := by decide +kernel
theorem dX8_init_61 : decode cX8_init 61 = .ok (.getfield 17, 3) := by decide +kernel
theorem dX8_init_64 : decode cX8_init 64 = .ok (.arraylength, 1) := by decide +kernel
theorem dX8_init_65 : decode cX8_init 65 = .ok (.if_icmp .ge 22, 3) := by decide +kernel
theorem dX8_init_68 : decode cX8_init 68 = .ok (.aload_n 0, 1) := by decide +kernel
