theorem dX7_markBy_51 : decode cX7_markBy 51 = .ok (.aload_n 0, 1) := by decide +kernel
theorem dX7_markBy_52 : decode cX7_markBy 52 = .ok (.getfield 23, 3) := by decide +kernel
theorem dX7_markBy_55 : decode cX7_markBy 55 = .ok (.i2f, 1) := by decide +kernel
theorem dX7_markBy_56 : decode cX7_markBy 56 = .ok (.fdiv, 1) := by decide +kernel
theorem dX7_markBy_57 : decode cX7_markBy 57 = .ok (.freturn, 1) := by decide +kernel
set_option maxRecDepth 20000 in
theorem ggX8_init_X5_init : GoodIn wsX8_init wsX5_init := goodIn_r _ [24, 25, 2, 3, 26, 27, 50, 51] (by decide +kernel) (by decide +kernel)
set_option maxRecDepth 20000 in
theorem gX8_init_X5_init_n39 : GoodIn wsX8_init (wsX5_init) := ggX8_init_X5_init
set_option maxRecDepth 20000 in
theorem ggX8_init_X2_init : GoodIn wsX8_init wsX2_init := goodIn_r _ [29, 30, 2, 3] (by decide +kernel) (by decide +kernel)
set_option maxRecDepth 20000 in
theorem gX8_init_X2_init_n44 : GoodIn wsX8_init (wsX2_init) := ggX8_init_X2_init
set_option maxRecDepth 20000 in
theorem ggX8_init_X6_init : GoodIn wsX8_init wsX6_init := goodIn_r _ [32, 33, 2, 3] (by decide +kernel) (by decide +kernel)
set_option maxRecDepth 20000 in
theorem gX8_init_X6_init_n45 : GoodIn wsX8_init (wsX6_init) := ggX8_init_X6_init
set_option maxRecDepth 20000 in
theorem ggX8_init_X1_init : GoodIn wsX8_init wsX1_init := goodIn_r _ [36, 37, 2, 3, 38, 39, 58] (by decide +kernel) (by decide +kernel)
set_option maxRecDepth 20000 in
theorem gX8_init_X1_init : GoodIn wsX8_init (wsX1_init) := ggX8_init_X1_init
theorem dX8_init_0 : decode cX8_init 0 = .ok (.aload_n 0, 1) := by decide +kernel
theorem dX8_init_1 : decode cX8_init 1 = .ok (.invokespecial 1, 3) := by decide +kernel
theorem dX8_init_4 : decode cX8_init 4 = .ok (.aload_n 0, 1) := by decide +kernel
theorem dX8_init_5 : decode cX8_init 5 = .ok (.bipush 6, 2) := by decide +kernel
theorem dX8_init_7 : decode cX8_init 7 = .ok (.anewarray 9, 3) := by decide +kernel
theorem dX8_init_10 : decode cX8_init 10 = .ok (.putfield 11, 3) := by decide +kernel
theorem dX8_init_13 : decode cX8_init 13 = .ok (.aload_n 0, 1) := by decide +kernel
theorem dX8_init_14 : decode cX8_init 14 = .ok (.iconst 3, 1) := by decide +kernel
theorem dX8_init_15 : decode cX8_init 15 = .ok (.anewarray 15, 3) := by decide +kernel
theorem dX8_init_18 : decode cX8_init 18 = .ok (.putfield 17, 3) := by decide +kernel
theorem dX8_init_21 : decode cX8_init 21 = .ok (.aload_n 0, 1) := by decide +kernel
theorem dX8_init_22 : decode cX8_init 22 = .ok (.iconst 4, 1) := by decide +kernel
theorem dX8_init_23 : decode cX8_init 23 = .ok (.anewarray 21, 3) := by decide +kernel
theorem dX8_init_26 : decode cX8_init 26 = .ok (.putfield 23, 3) := by decide +kernel
theorem dX8_init_29 : decode cX8_init 29 = .ok (.aload_n 0, 1) := by decide +kernel
theorem dX8_init_30 : decode cX8_init 30 = .ok (.iconst 4, 1) := by decide +kernel
theorem dX8_init_31 : decode cX8_init 31 = .ok (.anewarray 27, 3) := by decide +kernel
theorem dX8_init_34 : decode cX8_init 34 = .ok (.putfield 29, 3) := by decide +kernel
theorem dX8_init_37 : decode cX8_init 37 = .ok (.aload_n 0, 1) := by decide +kernel
theorem dX8_init_38 : decode cX8_init 38 = .ok (.bipush 12, 2) := by decide +kernel
theorem dX8_init_40 : decode cX8_init 40 = .ok (.anewarray 33, 3) := by decide +kernel
theorem dX8_init_43 : decode cX8_init 43 = .ok (.putfield 35, 3) := by decide +kernel
theorem dX8_init_46 : decode cX8_init 46 = .ok (.aload_n 0, 1) := by decide +kernel
theorem dX8_init_47 : decode cX8_init 47 = .ok (.new 9, 3) := by decide +kernel
theorem dX8_init_50 : decode cX8_init 50 = .ok (.dup, 1) := by decide +kernel
theorem dX8_init_51 : decode cX8_init 51 = .ok (.invokespecial 39, 3) := by decide +kernel
theorem dX8_init_54 : decode cX8_init 54 = .ok (.putfield 40, 3) := by decide +kernel
theorem dX8_init_57 : decode cX8_init 57 = .ok (.iconst 0, 1) := by decide +kernel
theorem dX8_init_58 : decode cX8_init 58 = .ok (.istore_n 1, 1) := by decide +kernel
theorem dX8_init_59 : decode cX8_init 59 = .ok (.iload_n 1, 1) := by decide +kernel
theorem dX8_init_60 : decode cX8_init 60 = .ok (.aload_n 0, 1) := by decide +kernel
theorem dX8_init_61 : decode cX8_init 61 = .ok (.getfield 17, 3) := by decide +kernel
theorem dX8_init_64 : decode cX8_init 64 = .ok (.arraylength, 1) := by decide +kernel
theorem dX8_init_65 : decode cX8_init 65 = .ok (.if_icmp .ge 22, 3) := by decide +kernel
theorem dX8_init_68 : decode cX8_init 68 = .ok (.aload_n 0, 1) := by decide +kernel
theorem dX8_init_69 : decode cX8_init 69 = .ok (.getfield 17, 3) := by decide +kernel
theorem dX8_init_72 : decode cX8_init 72 = .ok (.iload_n 1, 1) := by decide +kernel
theorem dX8_init_73 : decode cX8_init 73 = .ok (.new 15, 3) := by decide +kernel
theorem dX8_init_76 : decode cX8_init 76 = .ok (.dup, 1) := by decide +kernel
theorem dX8_init_77 : decode cX8_init 77 = .ok (.invokespecial 44, 3) := by decide +kernel
theorem dX8_init_80 : decode cX8_init 80 = .ok (.aastore, 1) := by decide +kernel
theorem dX8_init_81 : decode cX8_init 81 = .ok (.iinc 1 1, 3) := by decide +kernel
theorem dX8_init_84 : decode cX8_init 84 = .ok (.goto (-25), 3) := by decide +kernel
theorem dX8_init_87 : decode cX8_init 87 = .ok (.iconst 0, 1) := by decide +kernel
theorem dX8_init_88 : decode cX8_init 88 = .ok (.istore_n 1, 1) := by decide +kernel
theorem dX8_init_89 : decode cX8_init 89 = .ok (.iload_n 1, 1) := by decide +kernel
theorem dX8_init_90 : decode cX8_init 90 = .ok (.aload_n 0, 1) := by decide +kernel
theorem dX8_init_91 : decode cX8_init 91 = .ok (.getfield 23, 3) := by decide +kernel
theorem dX8_init_94 : decode cX8_init 94 = .ok (.arraylength, 1) := by decide +kernel
theorem dX8_init_95 : decode cX8_init 95 = .ok (.if_icmp .ge 22, 3) := by decide +kernel
theorem dX8_init_98 : decode cX8_init 98 = .ok (.aload_n 0, 1) := by decide +kernel
theorem dX8_init_99 : decode cX8_init 99 = .ok (.getfield 23, 3) := by decide +kernel
theorem dX8_init_102 : decode cX8_init 102 = .ok (.iload_n 1, 1) := by decide +kernel
theorem dX8_init_103 : decode cX8_init 103 = .ok (.new 21, 3) := by decide +kernel
theorem dX8_init_106 : decode cX8_init 106 = .ok (.dup, 1) := by decide +kernel
theorem dX8_init_107 : decode cX8_init 107 = .ok (.invokespecial 45, 3) := by decide +kernel
theorem dX8_init_110 : decode cX8_init 110 = .ok (.aastore, 1) := by decide +kernel
theorem dX8_init_111 : decode cX8_init 111 = .ok (.iinc 1 1, 3) := by decide +kernel
theorem dX8_init_114 : decode cX8_init 114 = .ok (.goto (-25), 3) := by decide +kernel
theorem dX8_init_117 : decode cX8_init 117 = .ok (.iconst 0, 1) := by decide +kernel
theorem dX8_init_118 : decode cX8_init 118 = .ok (.istore_n 1, 1) := by decide +kernel
theorem dX8_init_119 : decode cX8_init 119 = .ok (.iload_n 1, 1) := by decide +kernel
theorem dX8_init_120 : decode cX8_init 120 = .ok (.aload_n 0, 1) := by decide +kernel
theorem dX8_init_121 : decode cX8_init 121 = .ok (.getfield 29, 3) := by decide +kernel
theorem dX8_init_124 : decode cX8_init 124 = .ok (.arraylength, 1) := by decide +kernel
theorem dX8_init_125 : decode cX8_init 125 = .ok (.if_icmp .ge 22, 3) := by decide +kernel
theorem dX8_init_128 : decode cX8_init 128 = .ok (.aload_n 0, 1) := by decide +kernel
theorem dX8_init_129 : decode cX8_init 129 = .ok (.getfield 29, 3) := by decide +kernel
theorem dX8_init_132 : decode cX8_init 132 = .ok (.iload_n 1, 1) := by decide +kernel
theorem dX8_init_133 : decode cX8_init 133 = .ok (.new 27, 3) := by decide +kernel
theorem dX8_init_136 : decode cX8_init 136 = .ok (.dup, 1) := by decide +kernel
theorem dX8_init_137 : decode cX8_init 137 = .ok (.invokespecial 46, 3) := by decide +kernel
theorem dX8_init_140 : decode cX8_init 140 = .ok (.aastore, 1) := by decide +kernel
theorem dX8_init_141 : decode cX8_init 141 = .ok (.iinc 1 1, 3) := by decide +kernel
theorem dX8_init_144 : decode cX8_init 144 = .ok (.goto (-25), 3) := by decide +kernel
theorem dX8_init_147 : decode cX8_init 147 = .ok (.return_, 1) := by decide +kernel
set_option maxRecDepth 20000 in
theorem ggX8_stroke_X8_isPlace : GoodIn wsX8_stroke wsX8_isPlace := goodIn_r _ [13, 14, 15, 12, 16] (by decide +kernel) (by decide +kernel)
set_option maxRecDepth 20000 in
theorem gX8_stroke_X8_isPlace : GoodIn wsX8_stroke (va_wsS RX8 47 yX8_isPlace wsX8_isPlace) := goodIn_app (goodIn_of _ (by decide +kernel)) ggX8_stroke_X8_isPlace
set_option maxRecDepth 20000 in
theorem ggX8_stroke_X4_init : GoodIn wsX8_stroke wsX4_init := goodIn_r _ [19, 20, 21, 22, 23, 24, 25, 26, 46, 47, 48, 49] (by decide +kernel) (by decide +kernel)
set_option maxRecDepth 20000 in
theorem gX8_stroke_X4_init : GoodIn wsX8_stroke (wsX4_init) := ggX8_stroke_X4_init
set_option maxRecDepth 20000 in
theorem ggX8_stroke_X5_add : GoodIn wsX8_stroke wsX5_add := goodIn_r _ [31, 32, 33, 44, 45] (by decide +kernel) (by decide +kernel)
set_option maxRecDepth 20000 in
theorem gX8_stroke_X5_add : GoodIn wsX8_stroke (wsV RX8 74 RX5 yX5_add wsX5_add) := goodIn_app (goodIn_of _ (by decide +kernel)) ggX8_stroke_X5_add
theorem dX8_stroke_0 : decode cX8_stroke 0 = .ok (.iload_n 1, 1) := by decide +kernel
theorem dX8_stroke_1 : decode cX8_stroke 1 = .ok (.iload_n 2, 1) := by decide +kernel
theorem dX8_stroke_2 : decode cX8_stroke 2 = .ok (.invokestatic 47, 3) := by decide +kernel
theorem dX8_stroke_5 : decode cX8_stroke 5 = .ok (.ifCond .eq 12, 3) := by decide +kernel
theorem dX8_stroke_8 : decode cX8_stroke 8 = .ok (.iload_n 3, 1) := by decide +kernel
theorem dX8_stroke_9 : decode cX8_stroke 9 = .ok (.iload 4, 2) := by decide +kernel
theorem dX8_stroke_11 : decode cX8_stroke 11 = .ok (.invokestatic 47, 3) := by decide +kernel
theorem dX8_stroke_14 : decode cX8_stroke 14 = .ok (.ifCond .ne 13, 3) := by decide +kernel
theorem dX8_stroke_17 : decode cX8_stroke 17 = .ok (.new 51, 3) := by decide +kernel
theorem dX8_stroke_20 : decode cX8_stroke 20 = .ok (.dup, 1) := by decide +kernel
theorem dX8_stroke_21 : decode cX8_stroke 21 = .ok (.ldc 53, 2) := by decide +kernel
theorem dX8_stroke_23 : decode cX8_stroke 23 = .ok (.invokespecial 55, 3) := by decide +kernel
theorem dX8_stroke_26 : decode cX8_stroke 26 = .ok (.athrow, 1) := by decide +kernel
theorem dX8_stroke_27 : decode cX8_stroke 27 = .ok (.iload_n 1, 1) := by decide +kernel
theorem dX8_stroke_28 : decode cX8_stroke 28 = .ok (.iload_n 3, 1) := by decide +kernel
theorem dX8_stroke_29 : decode cX8_stroke 29 = .ok (.if_icmp .ne 19, 3) := by decide +kernel
theorem dX8_stroke_32 : decode cX8_stroke 32 = .ok (.iload_n 2, 1) := by decide +kernel
theorem dX8_stroke_33 : decode cX8_stroke 33 = .ok (.iload 4, 2) := by decide +kernel
theorem dX8_stroke_35 : decode cX8_stroke 35 = .ok (.if_icmp .ne 13, 3) := by decide +kernel
theorem dX8_stroke_38 : decode cX8_stroke 38 = .ok (.new 51, 3) := by decide +kernel
theorem dX8_stroke_41 : decode cX8_stroke 41 = .ok (.dup, 1) := by decide +kernel
theorem dX8_stroke_42 : decode cX8_stroke 42 = .ok (.ldc 58, 2) := by decide +kernel
theorem dX8_stroke_44 : decode cX8_stroke 44 = .ok (.invokespecial 55, 3) := by decide +kernel
theorem dX8_stroke_47 : decode cX8_stroke 47 = .ok (.athrow, 1) := by decide +kernel
theorem dX8_stroke_48 : decode cX8_stroke 48 = .ok (.aload_n 0, 1) := by decide +kernel
theorem dX8_stroke_49 : decode cX8_stroke 49 = .ok (.getfield 40, 3) := by decide +kernel
theorem dX8_stroke_52 : decode cX8_stroke 52 = .ok (.getfield 60, 3) := by decide +kernel
theorem dX8_stroke_55 : decode cX8_stroke 55 = .ok (.bipush 8, 2) := by decide +kernel
theorem dX8_stroke_57 : decode cX8_stroke 57 = .ok (.if_icmp .lt 13, 3) := by decide +kernel
theorem dX8_stroke_60 : decode cX8_stroke 60 = .ok (.new 64, 3) := by decide +kernel
theorem dX8_stroke_63 : decode cX8_stroke 63 = .ok (.dup, 1) := by decide +kernel
theorem dX8_stroke_64 : decode cX8_stroke 64 = .ok (.ldc 66, 2) := by decide +kernel
theorem dX8_stroke_66 : decode cX8_stroke 66 = .ok (.invokespecial 68, 3) := by decide +kernel
theorem dX8_stroke_69 : decode cX8_stroke 69 = .ok (.athrow, 1) := by decide +kernel
theorem dX8_stroke_70 : decode cX8_stroke 70 = .ok (.aload_n 0, 1) := by decide +kernel
theorem dX8_stroke_71 : decode cX8_stroke 71 = .ok (.getfield 40, 3) := by decide +kernel
theorem dX8_stroke_74 : decode cX8_stroke 74 = .ok (.new 69, 3) := by decide +kernel
theorem dX8_stroke_77 : decode cX8_stroke 77 = .ok (.dup, 1) := by decide +kernel
theorem dX8_stroke_78 : decode cX8_stroke 78 = .ok (.iload_n 1, 1) := by decide +kernel
theorem dX8_stroke_79 : decode cX8_stroke 79 = .ok (.iload_n 2, 1) := by decide +kernel
theorem dX8_stroke_80 : decode cX8_stroke 80 = .ok (.iload_n 3, 1) := by decide +kernel
theorem dX8_stroke_81 : decode cX8_stroke 81 = .ok (.iload 4, 2) := by decide +kernel
theorem dX8_stroke_83 : decode cX8_stroke 83 = .ok (.invokespecial 71, 3) := by decide +kernel
theorem dX8_stroke_86 : decode cX8_stroke 86 = .ok (.invokevirtual 74, 3) := by decide +kernel
theorem dX8_stroke_89 : decode cX8_stroke 89 = .ok (.aload_n 0, 1) := by decide +kernel
theorem dX8_stroke_90 : decode cX8_stroke 90 = .ok (.getfield 40, 3) := by decide +kernel
theorem dX8_stroke_93 : decode cX8_stroke 93 = .ok (.getfield 60, 3) := by decide +kernel
theorem dX8_stroke_96 : decode cX8_stroke 96 = .ok (.ireturn, 1) := by decide +kernel
set_option maxRecDepth 20000 in
theorem ggX8_clear_X5_empty : GoodIn wsX8_clear wsX5_empty := goodIn_r _ [7, 8, 19, 20] (by decide +kernel) (by decide +kernel)
set_option maxRecDepth 20000 in
theorem gX8_clear_X5_empty : GoodIn wsX8_clear (wsV RX8 78 RX5 yX5_empty wsX5_empty) := goodIn_app (goodIn_of _ (by decide +kernel)) ggX8_clear_X5_empty
theorem dX8_clear_0 : decode cX8_clear 0 = .ok (.aload_n 0, 1) := by decide +kernel
theorem dX8_clear_1 : decode cX8_clear 1 = .ok (.getfield 40, 3) := by decide +kernel
theorem dX8_clear_4 : decode cX8_clear 4 = .ok (.getfield 60, 3) := by decide +kernel
theorem dX8_clear_7 : decode cX8_clear 7 = .ok (.istore_n 1, 1) := by decide +kernel
theorem dX8_clear_8 : decode cX8_clear 8 = .ok (.aload_n 0, 1) := by decide +kernel
theorem dX8_clear_9 : decode cX8_clear 9 = .ok (.getfield 40, 3) := by decide +kernel
theorem dX8_clear_12 : decode cX8_clear 12 = .ok (.invokevirtual 78, 3) := by decide +kernel
theorem dX8_clear_15 : decode cX8_clear 15 = .ok (.iload_n 1, 1) := by decide +kernel
theorem dX8_clear_16 : decode cX8_clear 16 = .ok (.ireturn, 1) := by decide +kernel
set_option maxRecDepth 20000 in
theorem ggX8_sign_X8_isWithin : GoodIn wsX8_sign wsX8_isWithin := goodIn_r _ [13] (by decide +kernel) (by decide +kernel)
set_option maxRecDepth 20000 in
theorem gX8_sign_X8_isWithin : GoodIn wsX8_sign (va_wsS RX8 86 yX8_isWithin wsX8_isWithin) := goodIn_app (goodIn_of _ (by decide +kernel)) ggX8_sign_X8_isWithin
set_option maxRecDepth 20000 in
theorem ggX8_sign_X5_init : GoodIn wsX8_sign wsX5_init := goodIn_r _ [15, 16, 17, 18, 19, 20, 31, 32] (by decide +kernel) (by decide +kernel)
set_option maxRecDepth 20000 in
theorem gX8_sign_X5_init_n39 : GoodIn wsX8_sign (wsX5_init) := ggX8_sign_X5_init
theorem dX8_sign_0 : decode cX8_sign 0 = .ok (.aload_n 0, 1) := by decide +kernel
theorem dX8_sign_1 : decode cX8_sign 1 = .ok (.getfield 40, 3) := by decide +kernel
theorem dX8_sign_4 : decode cX8_sign 4 = .ok (.getfield 60, 3) := by decide +kernel
theorem dX8_sign_7 : decode cX8_sign 7 = .ok (.ifCond .eq 15, 3) := by decide +kernel
theorem dX8_sign_10 : decode cX8_sign 10 = .ok (.aload_n 0, 1) := by decide +kernel
theorem dX8_sign_11 : decode cX8_sign 11 = .ok (.getfield 40, 3) := by decide +kernel
theorem dX8_sign_14 : decode cX8_sign 14 = .ok (.getfield 60, 3) := by decide +kernel
theorem dX8_sign_17 : decode cX8_sign 17 = .ok (.bipush 6, 2) := by decide +kernel
theorem dX8_sign_19 : decode cX8_sign 19 = .ok (.if_icmp .le 13, 3) := by decide +kernel
theorem dX8_sign_22 : decode cX8_sign 22 = .ok (.new 64, 3) := by decide +kernel
theorem dX8_sign_25 : decode cX8_sign 25 = .ok (.dup, 1) := by decide +kernel
theorem dX8_sign_26 : decode cX8_sign 26 = .ok (.ldc 81, 2) := by decide +kernel
theorem dX8_sign_28 : decode cX8_sign 28 = .ok (.invokespecial 68, 3) := by decide +kernel
theorem dX8_sign_31 : decode cX8_sign 31 = .ok (.athrow, 1) := by decide +kernel
theorem dX8_sign_32 : decode cX8_sign 32 = .ok (.aload_n 0, 1) := by decide +kernel
theorem dX8_sign_33 : decode cX8_sign 33 = .ok (.getfield 83, 3) := by decide +kernel
theorem dX8_sign_36 : decode cX8_sign 36 = .ok (.iconst 0, 1) := by decide +kernel
theorem dX8_sign_37 : decode cX8_sign 37 = .ok (.aload_n 0, 1) := by decide +kernel
theorem dX8_sign_38 : decode cX8_sign 38 = .ok (.getfield 11, 3) := by decide +kernel
theorem dX8_sign_41 : decode cX8_sign 41 = .ok (.arraylength, 1) := by decide +kernel
theorem dX8_sign_42 : decode cX8_sign 42 = .ok (.iconst 1, 1) := by decide +kernel
theorem dX8_sign_43 : decode cX8_sign 43 = .ok (.isub, 1) := by decide +kernel
theorem dX8_sign_44 : decode cX8_sign 44 = .ok (.invokestatic 86, 3) := by decide +kernel
theorem dX8_sign_47 : decode cX8_sign 47 = .ok (.ifCond .ne 13, 3) := by decide +kernel
theorem dX8_sign_50 : decode cX8_sign 50 = .ok (.new 64, 3) := by decide +kernel
theorem dX8_sign_53 : decode cX8_sign 53 = .ok (.dup, 1) := by decide +kernel
theorem dX8_sign_54 : decode cX8_sign 54 = .ok (.ldc 90, 2) := by decide +kernel
theorem dX8_sign_56 : decode cX8_sign 56 = .ok (.invokespecial 68, 3) := by decide +kernel
theorem dX8_sign_59 : decode cX8_sign 59 = .ok (.athrow, 1) := by decide +kernel
theorem dX8_sign_60 : decode cX8_sign 60 = .ok (.aload_n 0, 1) := by decide +kernel
theorem dX8_sign_61 : decode cX8_sign 61 = .ok (.getfield 83, 3) := by decide +kernel
theorem dX8_sign_64 : decode cX8_sign 64 = .ok (.istore_n 1, 1) := by decide +kernel
theorem dX8_sign_65 : decode cX8_sign 65 = .ok (.aload_n 0, 1) := by decide +kernel
theorem dX8_sign_66 : decode cX8_sign 66 = .ok (.getfield 11, 3) := by decide +kernel
theorem dX8_sign_69 : decode cX8_sign 69 = .ok (.iload_n 1, 1) := by decide +kernel
theorem dX8_sign_70 : decode cX8_sign 70 = .ok (.aload_n 0, 1) := by decide +kernel
theorem dX8_sign_71 : decode cX8_sign 71 = .ok (.getfield 40, 3) := by decide +kernel
theorem dX8_sign_74 : decode cX8_sign 74 = .ok (.aastore, 1) := by decide +kernel
theorem dX8_sign_75 : decode cX8_sign 75 = .ok (.aload_n 0, 1) := by decide +kernel
theorem dX8_sign_76 : decode cX8_sign 76 = .ok (.dup, 1) := by decide +kernel
theorem dX8_sign_77 : decode cX8_sign 77 = .ok (.getfield 83, 3) := by decide +kernel
theorem dX8_sign_80 : decode cX8_sign 80 = .ok (.iconst 1, 1) := by decide +kernel
theorem dX8_sign_81 : decode cX8_sign 81 = .ok (.iadd, 1) := by decide +kernel
theorem dX8_sign_82 : decode cX8_sign 82 = .ok (.putfield 83, 3) := by decide +kernel
theorem dX8_sign_85 : decode cX8_sign 85 = .ok (.aload_n 0, 1) := by decide +kernel
theorem dX8_sign_86 : decode cX8_sign 86 = .ok (.new 9, 3) := by decide +kernel
theorem dX8_sign_89 : decode cX8_sign 89 = .ok (.dup, 1) := by decide +kernel
theorem dX8_sign_90 : decode cX8_sign 90 = .ok (.invokespecial 39, 3) := by decide +kernel
theorem dX8_sign_93 : decode cX8_sign 93 = .ok (.putfield 40, 3) := by decide +kernel
theorem dX8_sign_96 : decode cX8_sign 96 = .ok (.iload_n 1, 1) := by decide +kernel
theorem dX8_sign_97 : decode cX8_sign 97 = .ok (.ireturn, 1) := by decide +kernel
set_option maxRecDepth 20000 in
theorem ggX8_buy_X8_paperAt : GoodIn wsX8_buy wsX8_paperAt := goodIn_r _ [12, 13, 20, 21, 22, 23, 24, 25, 26, 27, 28, 29] (by decide +kernel) (by decide +kernel)
set_option maxRecDepth 20000 in
theorem gX8_buy_X8_paperAt : GoodIn wsX8_buy (wsV RX8 92 RX8 yX8_paperAt wsX8_paperAt) := goodIn_app (goodIn_of _ (by decide +kernel)) ggX8_buy_X8_paperAt
set_option maxRecDepth 20000 in
theorem ggX8_buy_X8_isWithin : GoodIn wsX8_buy wsX8_isWithin := goodIn_r _ [16] (by decide +kernel) (by decide +kernel)
set_option maxRecDepth 20000 in
theorem gX8_buy_X8_isWithin : GoodIn wsX8_buy (va_wsS RX8 86 yX8_isWithin wsX8_isWithin) := goodIn_app (goodIn_of _ (by decide +kernel)) ggX8_buy_X8_isWithin
theorem dX8_buy_0 : decode cX8_buy 0 = .ok (.aload_n 0, 1) := by decide +kernel
theorem dX8_buy_1 : decode cX8_buy 1 = .ok (.iload_n 1, 1) := by decide +kernel
theorem dX8_buy_2 : decode cX8_buy 2 = .ok (.invokevirtual 92, 3) := by decide +kernel
theorem dX8_buy_5 : decode cX8_buy 5 = .ok (.astore_n 3, 1) := by decide +kernel
theorem dX8_buy_6 : decode cX8_buy 6 = .ok (.aload_n 3, 1) := by decide +kernel
theorem dX8_buy_7 : decode cX8_buy 7 = .ok (.ifnonnull 13, 3) := by decide +kernel
theorem dX8_buy_10 : decode cX8_buy 10 = .ok (.new 96, 3) := by decide +kernel
theorem dX8_buy_13 : decode cX8_buy 13 = .ok (.dup, 1) := by decide +kernel
theorem dX8_buy_14 : decode cX8_buy 14 = .ok (.ldc 98, 2) := by decide +kernel
theorem dX8_buy_16 : decode cX8_buy 16 = .ok (.invokespecial 100, 3) := by decide +kernel
theorem dX8_buy_19 : decode cX8_buy 19 = .ok (.athrow, 1) := by decide +kernel
theorem dX8_buy_20 : decode cX8_buy 20 = .ok (.iload_n 2, 1) := by decide +kernel
theorem dX8_buy_21 : decode cX8_buy 21 = .ok (.iconst 1, 1) := by decide +kernel
theorem dX8_buy_22 : decode cX8_buy 22 = .ok (.bipush 100, 2) := by decide +kernel
theorem dX8_buy_24 : decode cX8_buy 24 = .ok (.invokestatic 86, 3) := by decide +kernel
theorem dX8_buy_27 : decode cX8_buy 27 = .ok (.ifCond .ne 13, 3) := by decide +kernel
theorem dX8_buy_30 : decode cX8_buy 30 = .ok (.new 51, 3) := by decide +kernel
theorem dX8_buy_33 : decode cX8_buy 33 = .ok (.dup, 1) := by decide +kernel
theorem dX8_buy_34 : decode cX8_buy 34 = .ok (.ldc 101, 2) := by decide +kernel
theorem dX8_buy_36 : decode cX8_buy 36 = .ok (.invokespecial 55, 3) := by decide +kernel
theorem dX8_buy_39 : decode cX8_buy 39 = .ok (.athrow, 1) := by decide +kernel
theorem dX8_buy_40 : decode cX8_buy 40 = .ok (.aload_n 3, 1) := by decide +kernel
theorem dX8_buy_41 : decode cX8_buy 41 = .ok (.getfield 103, 3) := by decide +kernel
theorem dX8_buy_44 : decode cX8_buy 44 = .ok (.iload_n 2, 1) := by decide +kernel
theorem dX8_buy_45 : decode cX8_buy 45 = .ok (.iadd, 1) := by decide +kernel
theorem dX8_buy_46 : decode cX8_buy 46 = .ok (.sipush 1000, 3) := by decide +kernel
theorem dX8_buy_49 : decode cX8_buy 49 = .ok (.if_icmp .le 13, 3) := by decide +kernel
theorem dX8_buy_52 : decode cX8_buy 52 = .ok (.new 64, 3) := by decide +kernel
theorem dX8_buy_55 : decode cX8_buy 55 = .ok (.dup, 1) := by decide +kernel
theorem dX8_buy_56 : decode cX8_buy 56 = .ok (.ldc 106, 2) := by decide +kernel
theorem dX8_buy_58 : decode cX8_buy 58 = .ok (.invokespecial 68, 3) := by decide +kernel
theorem dX8_buy_61 : decode cX8_buy 61 = .ok (.athrow, 1) := by decide +kernel
theorem dX8_buy_62 : decode cX8_buy 62 = .ok (.aload_n 3, 1) := by decide +kernel
theorem dX8_buy_63 : decode cX8_buy 63 = .ok (.dup, 1) := by decide +kernel
theorem dX8_buy_64 : decode cX8_buy 64 = .ok (.getfield 103, 3) := by decide +kernel
theorem dX8_buy_67 : decode cX8_buy 67 = .ok (.iload_n 2, 1) := by decide +kernel
theorem dX8_buy_68 : decode cX8_buy 68 = .ok (.iadd, 1) := by decide +kernel
theorem dX8_buy_69 : decode cX8_buy 69 = .ok (.putfield 103, 3) := by decide +kernel
theorem dX8_buy_72 : decode cX8_buy 72 = .ok (.aload_n 3, 1) := by decide +kernel
theorem dX8_buy_73 : decode cX8_buy 73 = .ok (.getfield 103, 3) := by decide +kernel
theorem dX8_buy_76 : decode cX8_buy 76 = .ok (.ireturn, 1) := by decide +kernel
set_option maxRecDepth 20000 in
theorem ggX8_rise_X8_paperAt : GoodIn wsX8_rise wsX8_paperAt := goodIn_r _ [11, 12, 19, 20, 21, 22, 23, 24, 25, 26, 27, 28] (by decide +kernel) (by decide +kernel)
set_option maxRecDepth 20000 in
theorem gX8_rise_X8_paperAt : GoodIn wsX8_rise (wsV RX8 92 RX8 yX8_paperAt wsX8_paperAt) := goodIn_app (goodIn_of _ (by decide +kernel)) ggX8_rise_X8_paperAt
set_option maxRecDepth 20000 in
theorem ggX8_rise_X8_isWithin : GoodIn wsX8_rise wsX8_isWithin := goodIn_r _ [15] (by decide +kernel) (by decide +kernel)
set_option maxRecDepth 20000 in
theorem gX8_rise_X8_isWithin : GoodIn wsX8_rise (va_wsS RX8 86 yX8_isWithin wsX8_isWithin) := goodIn_app (goodIn_of _ (by decide +kernel)) ggX8_rise_X8_isWithin
theorem dX8_rise_0 : decode cX8_rise 0 = .ok (.aload_n 0, 1) := by decide +kernel
theorem dX8_rise_1 : decode cX8_rise 1 = .ok (.iload_n 1, 1) := by decide +kernel
theorem dX8_rise_2 : decode cX8_rise 2 = .ok (.invokevirtual 92, 3) := by decide +kernel
theorem dX8_rise_5 : decode cX8_rise 5 = .ok (.astore_n 3, 1) := by decide +kernel
theorem dX8_rise_6 : decode cX8_rise 6 = .ok (.aload_n 3, 1) := by decide +kernel
theorem dX8_rise_7 : decode cX8_rise 7 = .ok (.ifnonnull 13, 3) := by decide +kernel
theorem dX8_rise_10 : decode cX8_rise 10 = .ok (.new 96, 3) := by decide +kernel
theorem dX8_rise_13 : decode cX8_rise 13 = .ok (.dup, 1) := by decide +kernel
theorem dX8_rise_14 : decode cX8_rise 14 = .ok (.ldc 98, 2) := by decide +kernel
theorem dX8_rise_16 : decode cX8_rise 16 = .ok (.invokespecial 100, 3) := by decide +kernel
theorem dX8_rise_19 : decode cX8_rise 19 = .ok (.athrow, 1) := by decide +kernel
theorem dX8_rise_20 : decode cX8_rise 20 = .ok (.iload_n 2, 1) := by decide +kernel
theorem dX8_rise_21 : decode cX8_rise 21 = .ok (.bipush (-10), 2) := by decide +kernel
theorem dX8_rise_23 : decode cX8_rise 23 = .ok (.bipush 10, 2) := by decide +kernel
theorem dX8_rise_25 : decode cX8_rise 25 = .ok (.invokestatic 86, 3) := by decide +kernel
theorem dX8_rise_28 : decode cX8_rise 28 = .ok (.ifCond .ne 13, 3) := by decide +kernel
theorem dX8_rise_31 : decode cX8_rise 31 = .ok (.new 51, 3) := by decide +kernel
theorem dX8_rise_34 : decode cX8_rise 34 = .ok (.dup, 1) := by decide +kernel
theorem dX8_rise_35 : decode cX8_rise 35 = .ok (.ldc 108, 2) := by decide +kernel
theorem dX8_rise_37 : decode cX8_rise 37 = .ok (.invokespecial 55, 3) := by decide +kernel
theorem dX8_rise_40 : decode cX8_rise 40 = .ok (.athrow, 1) := by decide +kernel
theorem dX8_rise_41 : decode cX8_rise 41 = .ok (.aload_n 3, 1) := by decide +kernel
theorem dX8_rise_42 : decode cX8_rise 42 = .ok (.iload_n 2, 1) := by decide +kernel
theorem dX8_rise_43 : decode cX8_rise 43 = .ok (.putfield 110, 3) := by decide +kernel
theorem dX8_rise_46 : decode cX8_rise 46 = .ok (.aload_n 3, 1) := by decide +kernel
theorem dX8_rise_47 : decode cX8_rise 47 = .ok (.getfield 113, 3) := by decide +kernel
theorem dX8_rise_50 : decode cX8_rise 50 = .ok (.ireturn, 1) := by decide +kernel
set_option maxRecDepth 20000 in
theorem ggX8_style_X8_styleAt : GoodIn wsX8_style wsX8_styleAt := goodIn_r _ [12, 13, 20, 21, 22, 23, 24, 25, 26, 27, 28, 29] (by decide +kernel) (by decide +kernel)
set_option maxRecDepth 20000 in
theorem gX8_style_X8_styleAt : GoodIn wsX8_style (wsV RX8 116 RX8 yX8_styleAt wsX8_styleAt) := goodIn_app (goodIn_of _ (by decide +kernel)) ggX8_style_X8_styleAt
set_option maxRecDepth 20000 in
theorem ggX8_style_X8_isWithin : GoodIn wsX8_style wsX8_isWithin := goodIn_r _ [16] (by decide +kernel) (by decide +kernel)
set_option maxRecDepth 20000 in
theorem gX8_style_X8_isWithin : GoodIn wsX8_style (va_wsS RX8 86 yX8_isWithin wsX8_isWithin) := goodIn_app (goodIn_of _ (by decide +kernel)) ggX8_style_X8_isWithin
theorem dX8_style_0 : decode cX8_style 0 = .ok (.aload_n 0, 1) := by decide +kernel
theorem dX8_style_1 : decode cX8_style 1 = .ok (.iload_n 1, 1) := by decide +kernel
theorem dX8_style_2 : decode cX8_style 2 = .ok (.invokevirtual 116, 3) := by decide +kernel
theorem dX8_style_5 : decode cX8_style 5 = .ok (.astore 5, 2) := by decide +kernel
theorem dX8_style_7 : decode cX8_style 7 = .ok (.aload 5, 2) := by decide +kernel
theorem dX8_style_9 : decode cX8_style 9 = .ok (.ifnonnull 13, 3) := by decide +kernel
theorem dX8_style_12 : decode cX8_style 12 = .ok (.new 96, 3) := by decide +kernel
theorem dX8_style_15 : decode cX8_style 15 = .ok (.dup, 1) := by decide +kernel
theorem dX8_style_16 : decode cX8_style 16 = .ok (.ldc 120, 2) := by decide +kernel
theorem dX8_style_18 : decode cX8_style 18 = .ok (.invokespecial 100, 3) := by decide +kernel
theorem dX8_style_21 : decode cX8_style 21 = .ok (.athrow, 1) := by decide +kernel
theorem dX8_style_22 : decode cX8_style 22 = .ok (.iload_n 2, 1) := by decide +kernel
theorem dX8_style_23 : decode cX8_style 23 = .ok (.iconst 0, 1) := by decide +kernel
theorem dX8_style_24 : decode cX8_style 24 = .ok (.bipush 100, 2) := by decide +kernel
theorem dX8_style_26 : decode cX8_style 26 = .ok (.invokestatic 86, 3) := by decide +kernel
theorem dX8_style_29 : decode cX8_style 29 = .ok (.ifCond .eq 24, 3) := by decide +kernel
theorem dX8_style_32 : decode cX8_style 32 = .ok (.iload_n 3, 1) := by decide +kernel
theorem dX8_style_33 : decode cX8_style 33 = .ok (.iconst 0, 1) := by decide +kernel
theorem dX8_style_34 : decode cX8_style 34 = .ok (.bipush 100, 2) := by decide +kernel
theorem dX8_style_36 : decode cX8_style 36 = .ok (.invokestatic 86, 3) := by decide +kernel
theorem dX8_style_39 : decode cX8_style 39 = .ok (.ifCond .eq 14, 3) := by decide +kernel
theorem dX8_style_42 : decode cX8_style 42 = .ok (.iload 4, 2) := by decide +kernel
theorem dX8_style_44 : decode cX8_style 44 = .ok (.iconst 0, 1) := by decide +kernel
theorem dX8_style_45 : decode cX8_style 45 = .ok (.bipush 100, 2) := by decide +kernel
theorem dX8_style_47 : decode cX8_style 47 = .ok (.invokestatic 86, 3) := by decide +kernel
theorem dX8_style_50 : decode cX8_style 50 = .ok (.ifCond .ne 13, 3) := by decide +kernel
theorem dX8_style_53 : decode cX8_style 53 = .ok (.new 51, 3) := by decide +kernel
theorem dX8_style_56 : decode cX8_style 56 = .ok (.dup, 1) := by decide +kernel
theorem dX8_style_57 : decode cX8_style 57 = .ok (.ldc 122, 2) := by decide +kernel
theorem dX8_style_59 : decode cX8_style 59 = .ok (.invokespecial 55, 3) := by decide +kernel
theorem dX8_style_62 : decode cX8_style 62 = .ok (.athrow, 1) := by decide +kernel
theorem dX8_style_63 : decode cX8_style 63 = .ok (.aload 5, 2) := by decide +kernel
theorem dX8_style_65 : decode cX8_style 65 = .ok (.iload_n 2, 1) := by decide +kernel
theorem dX8_style_66 : decode cX8_style 66 = .ok (.putfield 124, 3) := by decide +kernel
theorem dX8_style_69 : decode cX8_style 69 = .ok (.aload 5, 2) := by decide +kernel
theorem dX8_style_71 : decode cX8_style 71 = .ok (.iload_n 3, 1) := by decide +kernel
theorem dX8_style_72 : decode cX8_style 72 = .ok (.putfield 127, 3) := by decide +kernel
theorem dX8_style_75 : decode cX8_style 75 = .ok (.aload 5, 2) := by decide +kernel
theorem dX8_style_77 : decode cX8_style 77 = .ok (.iload 4, 2) := by decide +kernel
theorem dX8_style_79 : decode cX8_style 79 = .ok (.putfield 130, 3) := by decide +kernel
theorem dX8_style_82 : decode cX8_style 82 = .ok (.return_, 1) := by decide +kernel
set_option maxRecDepth 20000 in
theorem ggX8_learn_X8_judgeAt : GoodIn wsX8_learn wsX8_judgeAt := goodIn_r _ [10, 11, 31, 32, 33, 34, 35, 36, 37, 38, 39, 40] (by decide +kernel) (by decide +kernel)
set_option maxRecDepth 20000 in
theorem gX8_learn_X8_judgeAt : GoodIn wsX8_learn (wsV RX8 133 RX8 yX8_judgeAt wsX8_judgeAt) := goodIn_app (goodIn_of _ (by decide +kernel)) ggX8_learn_X8_judgeAt
set_option maxRecDepth 20000 in
theorem ggX8_learn_X8_styleAt : GoodIn wsX8_learn wsX8_styleAt := goodIn_r _ [15, 16, 31, 32, 33, 34, 35, 36, 37, 38, 39, 40] (by decide +kernel) (by decide +kernel)
set_option maxRecDepth 20000 in
theorem gX8_learn_X8_styleAt : GoodIn wsX8_learn (wsV RX8 116 RX8 yX8_styleAt wsX8_styleAt) := goodIn_app (goodIn_of _ (by decide +kernel)) ggX8_learn_X8_styleAt
set_option maxRecDepth 20000 in
theorem ggX8_learn_X1_knowsOn : GoodIn wsX8_learn wsX1_knowsOn := goodIn_r _ [21, 22, 41] (by decide +kernel) (by decide +kernel)
set_option maxRecDepth 20000 in
theorem gX8_learn_X1_knowsOn : GoodIn wsX8_learn (wsV RX8 142 RX1 yX1_knowsOn wsX1_knowsOn) := goodIn_app (goodIn_of _ (by decide +kernel)) ggX8_learn_X1_knowsOn
set_option maxRecDepth 20000 in
theorem ggX8_learn_X1_takeUp : GoodIn wsX8_learn wsX1_takeUp := goodIn_r _ [26, 22, 41] (by decide +kernel) (by decide +kernel)
set_option maxRecDepth 20000 in
theorem gX8_learn_X1_takeUp : GoodIn wsX8_learn (wsV RX8 147 RX1 yX1_takeUp wsX1_takeUp) := goodIn_app (goodIn_of _ (by decide +kernel)) ggX8_learn_X1_takeUp
set_option maxRecDepth 20000 in
theorem ggX8_learn_X1_countKnown : GoodIn wsX8_learn wsX1_countKnown := goodIn_r _ [30, 22, 41] (by decide +kernel) (by decide +kernel)
set_option maxRecDepth 20000 in
theorem gX8_learn_X1_countKnown : GoodIn wsX8_learn (wsV RX8 151 RX1 yX1_countKnown wsX1_countKnown) := goodIn_app (goodIn_of _ (by decide +kernel)) ggX8_learn_X1_countKnown
theorem dX8_learn_0 : decode cX8_learn 0 = .ok (.aload_n 0, 1) := by decide +kernel
theorem dX8_learn_1 : decode cX8_learn 1 = .ok (.iload_n 1, 1) := by decide +kernel
theorem dX8_learn_2 : decode cX8_learn 2 = .ok (.invokevirtual 133, 3) := by decide +kernel
theorem dX8_learn_5 : decode cX8_learn 5 = .ok (.astore_n 3, 1) := by decide +kernel
theorem dX8_learn_6 : decode cX8_learn 6 = .ok (.aload_n 3, 1) := by decide +kernel
theorem dX8_learn_7 : decode cX8_learn 7 = .ok (.ifnull 11, 3) := by decide +kernel
theorem dX8_learn_10 : decode cX8_learn 10 = .ok (.aload_n 0, 1) := by decide +kernel
theorem dX8_learn_11 : decode cX8_learn 11 = .ok (.iload_n 2, 1) := by decide +kernel
theorem dX8_learn_12 : decode cX8_learn 12 = .ok (.invokevirtual 116, 3) := by decide +kernel
theorem dX8_learn_15 : decode cX8_learn 15 = .ok (.ifnonnull 13, 3) := by decide +kernel
theorem dX8_learn_18 : decode cX8_learn 18 = .ok (.new 96, 3) := by decide +kernel
theorem dX8_learn_21 : decode cX8_learn 21 = .ok (.dup, 1) := by decide +kernel
theorem dX8_learn_22 : decode cX8_learn 22 = .ok (.ldc 137, 2) := by decide +kernel
theorem dX8_learn_24 : decode cX8_learn 24 = .ok (.invokespecial 100, 3) := by decide +kernel
theorem dX8_learn_27 : decode cX8_learn 27 = .ok (.athrow, 1) := by decide +kernel
theorem dX8_learn_28 : decode cX8_learn 28 = .ok (.aload_n 3, 1) := by decide +kernel
theorem dX8_learn_29 : decode cX8_learn 29 = .ok (.iload_n 2, 1) := by decide +kernel
theorem dX8_learn_30 : decode cX8_learn 30 = .ok (.aload_n 0, 1) := by decide +kernel
theorem dX8_learn_31 : decode cX8_learn 31 = .ok (.getfield 139, 3) := by decide +kernel
theorem dX8_learn_34 : decode cX8_learn 34 = .ok (.invokevirtual 142, 3) := by decide +kernel
theorem dX8_learn_37 : decode cX8_learn 37 = .ok (.ifCond .eq 13, 3) := by decide +kernel
theorem dX8_learn_40 : decode cX8_learn 40 = .ok (.new 64, 3) := by decide +kernel
theorem dX8_learn_43 : decode cX8_learn 43 = .ok (.dup, 1) := by decide +kernel
theorem dX8_learn_44 : decode cX8_learn 44 = .ok (.ldc 145, 2) := by decide +kernel
theorem dX8_learn_46 : decode cX8_learn 46 = .ok (.invokespecial 68, 3) := by decide +kernel
theorem dX8_learn_49 : decode cX8_learn 49 = .ok (.athrow, 1) := by decide +kernel
theorem dX8_learn_50 : decode cX8_learn 50 = .ok (.aload_n 3, 1) := by decide +kernel
theorem dX8_learn_51 : decode cX8_learn 51 = .ok (.iload_n 2, 1) := by decide +kernel
theorem dX8_learn_52 : decode cX8_learn 52 = .ok (.aload_n 0, 1) := by decide +kernel
theorem dX8_learn_53 : decode cX8_learn 53 = .ok (.getfield 139, 3) := by decide +kernel
theorem dX8_learn_56 : decode cX8_learn 56 = .ok (.invokevirtual 147, 3) := by decide +kernel
theorem dX8_learn_59 : decode cX8_learn 59 = .ok (.aload_n 3, 1) := by decide +kernel
theorem dX8_learn_60 : decode cX8_learn 60 = .ok (.invokevirtual 151, 3) := by decide +kernel
theorem dX8_learn_63 : decode cX8_learn 63 = .ok (.ireturn, 1) := by decide +kernel
set_option maxRecDepth 20000 in
theorem ggX8_pass_X8_isWithin : GoodIn wsX8_pass wsX8_isWithin := goodIn_r _ [10] (by decide +kernel) (by decide +kernel)
set_option maxRecDepth 20000 in
theorem gX8_pass_X8_isWithin : GoodIn wsX8_pass (va_wsS RX8 86 yX8_isWithin wsX8_isWithin) := goodIn_app (goodIn_of _ (by decide +kernel)) ggX8_pass_X8_isWithin
set_option maxRecDepth 20000 in
theorem ggX8_pass_X2_age : GoodIn wsX8_pass wsX2_age := goodIn_r _ [15, 16, 17, 18, 19, 20, 21, 22, 23, 24, 35, 36, 37] (by decide +kernel) (by decide +kernel)
set_option maxRecDepth 20000 in
theorem gX8_pass_X2_age : GoodIn wsX8_pass (wsV RX8 159 RX2 yX2_age wsX2_age) := goodIn_app (goodIn_of _ (by decide +kernel)) ggX8_pass_X2_age
theorem dX8_pass_0 : decode cX8_pass 0 = .ok (.iload_n 1, 1) := by decide +kernel
theorem dX8_pass_1 : decode cX8_pass 1 = .ok (.iconst 1, 1) := by decide +kernel
theorem dX8_pass_2 : decode cX8_pass 2 = .ok (.bipush 100, 2) := by decide +kernel
theorem dX8_pass_4 : decode cX8_pass 4 = .ok (.invokestatic 86, 3) := by decide +kernel
theorem dX8_pass_7 : decode cX8_pass 7 = .ok (.ifCond .ne 13, 3) := by decide +kernel
theorem dX8_pass_10 : decode cX8_pass 10 = .ok (.new 51, 3) := by decide +kernel
theorem dX8_pass_13 : decode cX8_pass 13 = .ok (.dup, 1) := by decide +kernel
theorem dX8_pass_14 : decode cX8_pass 14 = .ok (.ldc 155, 2) := by decide +kernel
theorem dX8_pass_16 : decode cX8_pass 16 = .ok (.invokespecial 55, 3) := by decide +kernel
theorem dX8_pass_19 : decode cX8_pass 19 = .ok (.athrow, 1) := by decide +kernel
theorem dX8_pass_20 : decode cX8_pass 20 = .ok (.aload_n 0, 1) := by decide +kernel
theorem dX8_pass_21 : decode cX8_pass 21 = .ok (.getfield 139, 3) := by decide +kernel
theorem dX8_pass_24 : decode cX8_pass 24 = .ok (.iload_n 1, 1) := by decide +kernel
theorem dX8_pass_25 : decode cX8_pass 25 = .ok (.iadd, 1) := by decide +kernel
theorem dX8_pass_26 : decode cX8_pass 26 = .ok (.sipush 5000, 3) := by decide +kernel
theorem dX8_pass_29 : decode cX8_pass 29 = .ok (.if_icmp .le 13, 3) := by decide +kernel
theorem dX8_pass_32 : decode cX8_pass 32 = .ok (.new 64, 3) := by decide +kernel
theorem dX8_pass_35 : decode cX8_pass 35 = .ok (.dup, 1) := by decide +kernel
theorem dX8_pass_36 : decode cX8_pass 36 = .ok (.ldc 157, 2) := by decide +kernel
theorem dX8_pass_38 : decode cX8_pass 38 = .ok (.invokespecial 68, 3) := by decide +kernel
theorem dX8_pass_41 : decode cX8_pass 41 = .ok (.athrow, 1) := by decide +kernel
theorem dX8_pass_42 : decode cX8_pass 42 = .ok (.aload_n 0, 1) := by decide +kernel
theorem dX8_pass_43 : decode cX8_pass 43 = .ok (.dup, 1) := by decide +kernel
theorem dX8_pass_44 : decode cX8_pass 44 = .ok (.getfield 139, 3) := by decide +kernel
theorem dX8_pass_47 : decode cX8_pass 47 = .ok (.iload_n 1, 1) := by decide +kernel
theorem dX8_pass_48 : decode cX8_pass 48 = .ok (.iadd, 1) := by decide +kernel
theorem dX8_pass_49 : decode cX8_pass 49 = .ok (.putfield 139, 3) := by decide +kernel
theorem dX8_pass_52 : decode cX8_pass 52 = .ok (.iconst 0, 1) := by decide +kernel
theorem dX8_pass_53 : decode cX8_pass 53 = .ok (.istore_n 2, 1) := by decide +kernel
theorem dX8_pass_54 : decode cX8_pass 54 = .ok (.iload_n 2, 1) := by decide +kernel
theorem dX8_pass_55 : decode cX8_pass 55 = .ok (.aload_n 0, 1) := by decide +kernel
theorem dX8_pass_56 : decode cX8_pass 56 = .ok (.getfield 17, 3) := by decide +kernel
theorem dX8_pass_59 : decode cX8_pass 59 = .ok (.arraylength, 1) := by decide +kernel
theorem dX8_pass_60 : decode cX8_pass 60 = .ok (.if_icmp .ge 28, 3) := by decide +kernel
theorem dX8_pass_63 : decode cX8_pass 63 = .ok (.aload_n 0, 1) := by decide +kernel
theorem dX8_pass_64 : decode cX8_pass 64 = .ok (.getfield 17, 3) := by decide +kernel
theorem dX8_pass_67 : decode cX8_pass 67 = .ok (.iload_n 2, 1) := by decide +kernel
theorem dX8_pass_68 : decode cX8_pass 68 = .ok (.aaload, 1) := by decide +kernel
theorem dX8_pass_69 : decode cX8_pass 69 = .ok (.ifnull 13, 3) := by decide +kernel
theorem dX8_pass_72 : decode cX8_pass 72 = .ok (.aload_n 0, 1) := by decide +kernel
theorem dX8_pass_73 : decode cX8_pass 73 = .ok (.getfield 17, 3) := by decide +kernel
theorem dX8_pass_76 : decode cX8_pass 76 = .ok (.iload_n 2, 1) := by decide +kernel
theorem dX8_pass_77 : decode cX8_pass 77 = .ok (.aaload, 1) := by decide +kernel
theorem dX8_pass_78 : decode cX8_pass 78 = .ok (.iload_n 1, 1) := by decide +kernel
theorem dX8_pass_79 : decode cX8_pass 79 = .ok (.invokevirtual 159, 3) := by decide +kernel
theorem dX8_pass_82 : decode cX8_pass 82 = .ok (.iinc 2 1, 3) := by decide +kernel
theorem dX8_pass_85 : decode cX8_pass 85 = .ok (.goto (-31), 3) := by decide +kernel
theorem dX8_pass_88 : decode cX8_pass 88 = .ok (.aload_n 0, 1) := by decide +kernel
theorem dX8_pass_89 : decode cX8_pass 89 = .ok (.getfield 139, 3) := by decide +kernel
theorem dX8_pass_92 : decode cX8_pass 92 = .ok (.ireturn, 1) := by decide +kernel
set_option maxRecDepth 20000 in
theorem ggX8_duel_X8_isWriter : GoodIn wsX8_duel wsX8_isWriter := goodIn_r _ [17, 18, 19, 16, 20] (by decide +kernel) (by decide +kernel)
set_option maxRecDepth 20000 in
theorem gX8_duel_X8_isWriter : GoodIn wsX8_duel (va_wsS RX8 163 yX8_isWriter wsX8_isWriter) := goodIn_app (goodIn_of _ (by decide +kernel)) ggX8_duel_X8_isWriter
set_option maxRecDepth 20000 in
theorem ggX8_duel_X8_judgeAt : GoodIn wsX8_duel wsX8_judgeAt := goodIn_r _ [24, 25, 52, 53, 54, 55, 56, 57, 58, 59, 60, 61] (by decide +kernel) (by decide +kernel)
set_option maxRecDepth 20000 in
theorem gX8_duel_X8_judgeAt : GoodIn wsX8_duel (wsV RX8 133 RX8 yX8_judgeAt wsX8_judgeAt) := goodIn_app (goodIn_of _ (by decide +kernel)) ggX8_duel_X8_judgeAt
set_option maxRecDepth 20000 in
theorem ggX8_duel_X8_paperAt : GoodIn wsX8_duel wsX8_paperAt := goodIn_r _ [29, 30, 52, 53, 54, 55, 56, 57, 58, 59, 60, 61] (by decide +kernel) (by decide +kernel)
set_option maxRecDepth 20000 in
theorem gX8_duel_X8_paperAt : GoodIn wsX8_duel (wsV RX8 92 RX8 yX8_paperAt wsX8_paperAt) := goodIn_app (goodIn_of _ (by decide +kernel)) ggX8_duel_X8_paperAt
set_option maxRecDepth 20000 in
theorem ggX8_duel_X8_isWithin : GoodIn wsX8_duel wsX8_isWithin := goodIn_r _ [20] (by decide +kernel) (by decide +kernel)
set_option maxRecDepth 20000 in
theorem gX8_duel_X8_isWithin : GoodIn wsX8_duel (va_wsS RX8 86 yX8_isWithin wsX8_isWithin) := goodIn_app (goodIn_of _ (by decide +kernel)) ggX8_duel_X8_isWithin
set_option maxRecDepth 20000 in
theorem ggX8_duel_X0_init : GoodIn wsX8_duel wsX0_init := goodIn_r _ [33, 34, 35, 36, 37, 38, 39, 40, 41, 42, 43, 44, 45, 46, 47, 62, 63, 64, 65, 66, 67, 68, 69, 70, 71] (by decide +kernel) (by decide +kernel)
set_option maxRecDepth 20000 in
theorem gX8_duel_X0_init : GoodIn wsX8_duel (wsX0_init) := ggX8_duel_X0_init
set_option maxRecDepth 20000 in
theorem ggX8_duel_X0_drawPrompts : GoodIn wsX8_duel wsX0_drawPrompts := goodIn_r _ [51, 38, 46, 62, 63, 64, 65, 66, 67, 68, 69, 70, 71] (by decide +kernel) (by decide +kernel)
set_option maxRecDepth 20000 in
theorem gX8_duel_X0_drawPrompts : GoodIn wsX8_duel (wsV RX8 183 RX0 yX0_drawPrompts wsX0_drawPrompts) := goodIn_app (goodIn_of _ (by decide +kernel)) ggX8_duel_X0_drawPrompts
theorem dX8_duel_0 : decode cX8_duel 0 = .ok (.iload_n 1, 1) := by decide +kernel
theorem dX8_duel_1 : decode cX8_duel 1 = .ok (.invokestatic 163, 3) := by decide +kernel
theorem dX8_duel_4 : decode cX8_duel 4 = .ok (.ifCond .eq 10, 3) := by decide +kernel
theorem dX8_duel_7 : decode cX8_duel 7 = .ok (.iload_n 2, 1) := by decide +kernel
theorem dX8_duel_8 : decode cX8_duel 8 = .ok (.invokestatic 163, 3) := by decide +kernel
theorem dX8_duel_11 : decode cX8_duel 11 = .ok (.ifCond .ne 13, 3) := by decide +kernel
theorem dX8_duel_14 : decode cX8_duel 14 = .ok (.new 96, 3) := by decide +kernel
theorem dX8_duel_17 : decode cX8_duel 17 = .ok (.dup, 1) := by decide +kernel
theorem dX8_duel_18 : decode cX8_duel 18 = .ok (.ldc 167, 2) := by decide +kernel
theorem dX8_duel_20 : decode cX8_duel 20 = .ok (.invokespecial 100, 3) := by decide +kernel
theorem dX8_duel_23 : decode cX8_duel 23 = .ok (.athrow, 1) := by decide +kernel
theorem dX8_duel_24 : decode cX8_duel 24 = .ok (.aload_n 0, 1) := by decide +kernel
theorem dX8_duel_25 : decode cX8_duel 25 = .ok (.iload_n 3, 1) := by decide +kernel
theorem dX8_duel_26 : decode cX8_duel 26 = .ok (.invokevirtual 133, 3) := by decide +kernel
theorem dX8_duel_29 : decode cX8_duel 29 = .ok (.ifnull 12, 3) := by decide +kernel
theorem dX8_duel_32 : decode cX8_duel 32 = .ok (.aload_n 0, 1) := by decide +kernel
theorem dX8_duel_33 : decode cX8_duel 33 = .ok (.iload 4, 2) := by decide +kernel
theorem dX8_duel_35 : decode cX8_duel 35 = .ok (.invokevirtual 92, 3) := by decide +kernel
theorem dX8_duel_38 : decode cX8_duel 38 = .ok (.ifnonnull 13, 3) := by decide +kernel
theorem dX8_duel_41 : decode cX8_duel 41 = .ok (.new 96, 3) := by decide +kernel
theorem dX8_duel_44 : decode cX8_duel 44 = .ok (.dup, 1) := by decide +kernel
theorem dX8_duel_45 : decode cX8_duel 45 = .ok (.ldc 169, 2) := by decide +kernel
theorem dX8_duel_47 : decode cX8_duel 47 = .ok (.invokespecial 100, 3) := by decide +kernel
theorem dX8_duel_50 : decode cX8_duel 50 = .ok (.athrow, 1) := by decide +kernel
theorem dX8_duel_51 : decode cX8_duel 51 = .ok (.iload_n 1, 1) := by decide +kernel
theorem dX8_duel_52 : decode cX8_duel 52 = .ok (.iload_n 2, 1) := by decide +kernel
theorem dX8_duel_53 : decode cX8_duel 53 = .ok (.if_icmp .ne 13, 3) := by decide +kernel
theorem dX8_duel_56 : decode cX8_duel 56 = .ok (.new 51, 3) := by decide +kernel
theorem dX8_duel_59 : decode cX8_duel 59 = .ok (.dup, 1) := by decide +kernel
theorem dX8_duel_60 : decode cX8_duel 60 = .ok (.ldc 171, 2) := by decide +kernel
theorem dX8_duel_62 : decode cX8_duel 62 = .ok (.invokespecial 55, 3) := by decide +kernel
theorem dX8_duel_65 : decode cX8_duel 65 = .ok (.athrow, 1) := by decide +kernel
theorem dX8_duel_66 : decode cX8_duel 66 = .ok (.iload 5, 2) := by decide +kernel
theorem dX8_duel_68 : decode cX8_duel 68 = .ok (.iconst 1, 1) := by decide +kernel
theorem dX8_duel_69 : decode cX8_duel 69 = .ok (.iconst 5, 1) := by decide +kernel
theorem dX8_duel_70 : decode cX8_duel 70 = .ok (.invokestatic 86, 3) := by decide +kernel
theorem dX8_duel_73 : decode cX8_duel 73 = .ok (.ifCond .eq 15, 3) := by decide +kernel
theorem dX8_duel_76 : decode cX8_duel 76 = .ok (.iload 6, 2) := by decide +kernel
theorem dX8_duel_78 : decode cX8_duel 78 = .ok (.iconst 0, 1) := by decide +kernel
theorem dX8_duel_79 : decode cX8_duel 79 = .ok (.sipush 999, 3) := by decide +kernel
theorem dX8_duel_82 : decode cX8_duel 82 = .ok (.invokestatic 86, 3) := by decide +kernel
theorem dX8_duel_85 : decode cX8_duel 85 = .ok (.ifCond .ne 13, 3) := by decide +kernel
theorem dX8_duel_88 : decode cX8_duel 88 = .ok (.new 51, 3) := by decide +kernel
theorem dX8_duel_91 : decode cX8_duel 91 = .ok (.dup, 1) := by decide +kernel
theorem dX8_duel_92 : decode cX8_duel 92 = .ok (.ldc 173, 2) := by decide +kernel
theorem dX8_duel_94 : decode cX8_duel 94 = .ok (.invokespecial 55, 3) := by decide +kernel
theorem dX8_duel_97 : decode cX8_duel 97 = .ok (.athrow, 1) := by decide +kernel
theorem dX8_duel_98 : decode cX8_duel 98 = .ok (.aload_n 0, 1) := by decide +kernel
theorem dX8_duel_99 : decode cX8_duel 99 = .ok (.getfield 83, 3) := by decide +kernel
theorem dX8_duel_102 : decode cX8_duel 102 = .ok (.ifCond .eq 21, 3) := by decide +kernel
theorem dX8_duel_105 : decode cX8_duel 105 = .ok (.aload_n 0, 1) := by decide +kernel
theorem dX8_duel_106 : decode cX8_duel 106 = .ok (.getfield 175, 3) := by decide +kernel
theorem dX8_duel_109 : decode cX8_duel 109 = .ok (.iconst 0, 1) := by decide +kernel
theorem dX8_duel_110 : decode cX8_duel 110 = .ok (.aload_n 0, 1) := by decide +kernel
theorem dX8_duel_111 : decode cX8_duel 111 = .ok (.getfield 35, 3) := by decide +kernel
theorem dX8_duel_114 : decode cX8_duel 114 = .ok (.arraylength, 1) := by decide +kernel
theorem dX8_duel_115 : decode cX8_duel 115 = .ok (.iconst 1, 1) := by decide +kernel
theorem dX8_duel_116 : decode cX8_duel 116 = .ok (.isub, 1) := by decide +kernel
theorem dX8_duel_117 : decode cX8_duel 117 = .ok (.invokestatic 86, 3) := by decide +kernel
theorem dX8_duel_120 : decode cX8_duel 120 = .ok (.ifCond .ne 13, 3) := by decide +kernel
theorem dX8_duel_123 : decode cX8_duel 123 = .ok (.new 64, 3) := by decide +kernel
theorem dX8_duel_126 : decode cX8_duel 126 = .ok (.dup, 1) := by decide +kernel
theorem dX8_duel_127 : decode cX8_duel 127 = .ok (.ldc 178, 2) := by decide +kernel
theorem dX8_duel_129 : decode cX8_duel 129 = .ok (.invokespecial 68, 3) := by decide +kernel
theorem dX8_duel_132 : decode cX8_duel 132 = .ok (.athrow, 1) := by decide +kernel
theorem dX8_duel_133 : decode cX8_duel 133 = .ok (.aload_n 0, 1) := by decide +kernel
theorem dX8_duel_134 : decode cX8_duel 134 = .ok (.getfield 175, 3) := by decide +kernel
theorem dX8_duel_137 : decode cX8_duel 137 = .ok (.istore 7, 2) := by decide +kernel
theorem dX8_duel_139 : decode cX8_duel 139 = .ok (.new 33, 3) := by decide +kernel
theorem dX8_duel_142 : decode cX8_duel 142 = .ok (.dup, 1) := by decide +kernel
theorem dX8_duel_143 : decode cX8_duel 143 = .ok (.iload_n 1, 1) := by decide +kernel
theorem dX8_duel_144 : decode cX8_duel 144 = .ok (.iload_n 2, 1) := by decide +kernel
theorem dX8_duel_145 : decode cX8_duel 145 = .ok (.iload_n 3, 1) := by decide +kernel
theorem dX8_duel_146 : decode cX8_duel 146 = .ok (.iload 4, 2) := by decide +kernel
theorem dX8_duel_148 : decode cX8_duel 148 = .ok (.iload 5, 2) := by decide +kernel
theorem dX8_duel_150 : decode cX8_duel 150 = .ok (.aload_n 0, 1) := by decide +kernel
theorem dX8_duel_151 : decode cX8_duel 151 = .ok (.getfield 139, 3) := by decide +kernel
theorem dX8_duel_154 : decode cX8_duel 154 = .ok (.invokespecial 180, 3) := by decide +kernel
theorem dX8_duel_157 : decode cX8_duel 157 = .ok (.astore 8, 2) := by decide +kernel
theorem dX8_duel_159 : decode cX8_duel 159 = .ok (.aload 8, 2) := by decide +kernel
theorem dX8_duel_161 : decode cX8_duel 161 = .ok (.iload 6, 2) := by decide +kernel
theorem dX8_duel_163 : decode cX8_duel 163 = .ok (.aload_n 0, 1) := by decide +kernel
theorem dX8_duel_164 : decode cX8_duel 164 = .ok (.getfield 83, 3) := by decide +kernel
theorem dX8_duel_167 : decode cX8_duel 167 = .ok (.invokevirtual 183, 3) := by decide +kernel
theorem dX8_duel_170 : decode cX8_duel 170 = .ok (.aload_n 0, 1) := by decide +kernel
theorem dX8_duel_171 : decode cX8_duel 171 = .ok (.getfield 35, 3) := by decide +kernel
theorem dX8_duel_174 : decode cX8_duel 174 = .ok (.iload 7, 2) := by decide +kernel
theorem dX8_duel_176 : decode cX8_duel 176 = .ok (.aload 8, 2) := by decide +kernel
theorem dX8_duel_178 : decode cX8_duel 178 = .ok (.aastore, 1) := by decide +kernel
theorem dX8_duel_179 : decode cX8_duel 179 = .ok (.aload_n 0, 1) := by decide +kernel
theorem dX8_duel_180 : decode cX8_duel 180 = .ok (.dup, 1) := by decide +kernel
theorem dX8_duel_181 : decode cX8_duel 181 = .ok (.getfield 175, 3) := by decide +kernel
theorem dX8_duel_184 : decode cX8_duel 184 = .ok (.iconst 1, 1) := by decide +kernel
theorem dX8_duel_185 : decode cX8_duel 185 = .ok (.iadd, 1) := by decide +kernel
theorem dX8_duel_186 : decode cX8_duel 186 = .ok (.putfield 175, 3) := by decide +kernel
theorem dX8_duel_189 : decode cX8_duel 189 = .ok (.iload 7, 2) := by decide +kernel
theorem dX8_duel_191 : decode cX8_duel 191 = .ok (.ireturn, 1) := by decide +kernel
set_option maxRecDepth 20000 in
theorem ggX8_hand_X8_duelAt : GoodIn wsX8_hand wsX8_duelAt := goodIn_r _ [21, 22, 132, 133, 134, 135, 136, 137, 138, 139, 140, 141] (by decide +kernel) (by decide +kernel)
set_option maxRecDepth 20000 in
theorem gX8_hand_X8_duelAt : GoodIn wsX8_hand (wsV RX8 186 RX8 yX8_duelAt wsX8_duelAt) := goodIn_app (goodIn_of _ (by decide +kernel)) ggX8_hand_X8_duelAt
set_option maxRecDepth 20000 in
theorem ggX8_hand_X8_isWithin : GoodIn wsX8_hand wsX8_isWithin := goodIn_r _ [25] (by decide +kernel) (by decide +kernel)
set_option maxRecDepth 20000 in
theorem gX8_hand_X8_isWithin : GoodIn wsX8_hand (va_wsS RX8 86 yX8_isWithin wsX8_isWithin) := goodIn_app (goodIn_of _ (by decide +kernel)) ggX8_hand_X8_isWithin
set_option maxRecDepth 20000 in
theorem ggX8_hand_X0_promptAt : GoodIn wsX8_hand wsX0_promptAt := goodIn_r _ [30, 31, 122, 123, 124, 125, 126, 127, 128, 129, 130, 131] (by decide +kernel) (by decide +kernel)
set_option maxRecDepth 20000 in
theorem gX8_hand_X0_promptAt : GoodIn wsX8_hand (wsV RX8 197 RX0 yX0_promptAt wsX0_promptAt) := goodIn_app (goodIn_of _ (by decide +kernel)) ggX8_hand_X0_promptAt
set_option maxRecDepth 20000 in
theorem ggX8_hand_X8_signAt : GoodIn wsX8_hand wsX8_signAt := goodIn_r _ [35, 36, 132, 133, 134, 135, 136, 137, 138, 139, 140, 141] (by decide +kernel) (by decide +kernel)
set_option maxRecDepth 20000 in
theorem gX8_hand_X8_signAt : GoodIn wsX8_hand (wsV RX8 201 RX8 yX8_signAt wsX8_signAt) := goodIn_app (goodIn_of _ (by decide +kernel)) ggX8_hand_X8_signAt
set_option maxRecDepth 20000 in
theorem ggX8_hand_X0_isOver : GoodIn wsX8_hand wsX0_isOver := goodIn_r _ [40, 41, 42, 122, 123, 124, 125, 126, 127, 128, 129, 130, 131] (by decide +kernel) (by decide +kernel)
set_option maxRecDepth 20000 in
theorem gX8_hand_X0_isOver : GoodIn wsX8_hand (wsV RX8 205 RX0 yX0_isOver wsX0_isOver) := goodIn_app (goodIn_of _ (by decide +kernel)) ggX8_hand_X0_isOver
set_option maxRecDepth 20000 in
theorem ggX8_hand_X8_paperAt : GoodIn wsX8_hand wsX8_paperAt := goodIn_r _ [46, 47, 132, 133, 134, 135, 136, 137, 138, 139, 140, 141] (by decide +kernel) (by decide +kernel)
set_option maxRecDepth 20000 in
theorem gX8_hand_X8_paperAt : GoodIn wsX8_hand (wsV RX8 92 RX8 yX8_paperAt wsX8_paperAt) := goodIn_app (goodIn_of _ (by decide +kernel)) ggX8_hand_X8_paperAt
set_option maxRecDepth 20000 in
theorem ggX8_hand_X0_nextWriter : GoodIn wsX8_hand wsX0_nextWriter := goodIn_r _ [51, 41, 52, 53, 122, 123, 124, 125, 126, 127, 128, 129, 130, 131] (by decide +kernel) (by decide +kernel)
set_option maxRecDepth 20000 in
theorem gX8_hand_X0_nextWriter : GoodIn wsX8_hand (wsV RX8 219 RX0 yX0_nextWriter wsX0_nextWriter) := goodIn_app (goodIn_of _ (by decide +kernel)) ggX8_hand_X0_nextWriter
set_option maxRecDepth 20000 in
theorem ggX8_hand_X8_rightSeal : GoodIn wsX8_hand wsX8_rightSeal := goodIn_r _ [56] (by decide +kernel) (by decide +kernel)
set_option maxRecDepth 20000 in
theorem gX8_hand_X8_rightSeal : GoodIn wsX8_hand (va_wsS RX8 222 yX8_rightSeal wsX8_rightSeal) := goodIn_app (goodIn_of _ (by decide +kernel)) ggX8_hand_X8_rightSeal
