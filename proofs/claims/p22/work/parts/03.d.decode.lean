theorem dX8_init_69 : decode cX8_init 69 = .ok (.getfield 17, 3) := by decide +kernel
theorem dX8_init_72 : decode cX8_init 72 = .ok (.iload_n 1, 1) := by decide +kernel
theorem dX8_init_73 : decode cX8_init 73 = .ok (.new 15, 3) := by decide +kernel
theorem dX8_init_76 : decode cX8_init 76 = .ok (.dup, 1) := by decide +kernel
theorem dX8_init_77 : decode cX8_init 77 = .ok (.invokespecial 44, 3) := by decide +kernel
theorem dX8_init_80 : decode cX8_init 80 = .ok (.aastore, 1) := by decide +kernel
theorem dX8_init_81 : decode cX8_init 81 = .ok (.iinc 1 1, 3) := by decide +kernel
theorem dX8_init_84 : decode cX8_init 84 = .ok (.goto (-25), 3) := by decide +kernel
theorem dX8_init_87 : decode cX8_init 87 = .ok (.iconst 0, 1) := by decide +kernel
theorem dX8_init_88 : decode cX8_init 88 = .ok (.istore_n 1, 1) := by decide +kernel
theorem dX8_init_89 : decode cX8_init 89 = .ok (.iload_n 1, 1) := by decide +kernel
theorem dX8_init_90 : decode cX8_init 90 = .ok (.aload_n 0, 1) := by decide +kernel
theorem dX8_init_91 : decode cX8_init 91 = .ok (.getfield 23, 3) := by decide +kernel
theorem dX8_init_94 : decode cX8_init 94 = .ok (.arraylength, 1) := by decide +kernel
theorem dX8_init_95 : decode cX8_init 95 = .ok (.if_icmp .ge 22, 3) := by decide +kernel
theorem dX8_init_98 : decode cX8_init 98 = .ok (.aload_n 0, 1) := by decide +kernel
theorem dX8_init_99 : decode cX8_init 99 = .ok (.getfield 23, 3) := by decide +kernel
theorem dX8_init_102 : decode cX8_init 102 = .ok (.iload_n 1, 1) := by decide +kernel
theorem dX8_init_103 : decode cX8_init 103 = .ok (.new 21, 3) := by decide +kernel
theorem dX8_init_106 : decode cX8_init 106 = .ok (.dup, 1) := by decide +kernel
theorem dX8_init_107 : decode cX8_init 107 = .ok (.invokespecial 45, 3) := by decide +kernel
theorem dX8_init_110 : decode cX8_init 110 = .ok (.aastore, 1) := by decide +kernel
theorem dX8_init_111 : decode cX8_init 111 = .ok (.iinc 1 1, 3) := by decide +kernel
theorem dX8_init_114 : decode cX8_init 114 = .ok (.goto (-25), 3) := by decide +kernel
theorem dX8_init_117 : decode cX8_init 117 = .ok (.iconst 0, 1) := by decide +kernel
theorem dX8_init_118 : decode cX8_init 118 = .ok (.istore_n 1, 1) := by decide +kernel
theorem dX8_init_119 : decode cX8_init 119 = .ok (.iload_n 1, 1) := by decide +kernel
theorem dX8_init_120 : decode cX8_init 120 = .ok (.aload_n 0, 1) := by decide +kernel
theorem dX8_init_121 : decode cX8_init 121 = .ok (.getfield 29, 3) := by decide +kernel
theorem dX8_init_124 : decode cX8_init 124 = .ok (.arraylength, 1) := by decide +kernel
theorem dX8_init_125 : decode cX8_init 125 = .ok (.if_icmp .ge 22, 3) := by decide +kernel
theorem dX8_init_128 : decode cX8_init 128 = .ok (.aload_n 0, 1) := by decide +kernel
theorem dX8_init_129 : decode cX8_init 129 = .ok (.getfield 29, 3) := by decide +kernel
theorem dX8_init_132 : decode cX8_init 132 = .ok (.iload_n 1, 1) := by decide +kernel
theorem dX8_init_133 : decode cX8_init 133 = .ok (.new 27, 3) := by decide +kernel
theorem dX8_init_136 : decode cX8_init 136 = .ok (.dup, 1) := by decide +kernel
theorem dX8_init_137 : decode cX8_init 137 = .ok (.invokespecial 46, 3) := by decide +kernel
theorem dX8_init_140 : decode cX8_init 140 = .ok (.aastore, 1) := by decide +kernel
theorem dX8_init_141 : decode cX8_init 141 = .ok (.iinc 1 1, 3) := by decide +kernel
theorem dX8_init_144 : decode cX8_init 144 = .ok (.goto (-25), 3) := by decide +kernel
theorem dX8_init_147 : decode cX8_init 147 = .ok (.return_, 1) := by decide +kernel
set_option maxRecDepth 20000 in
theorem ggX8_stroke_X8_isPlace : GoodIn wsX8_stroke wsX8_isPlace := goodIn_r _ [13, 14, 15, 12, 16] (by decide +kernel) (by decide +kernel)
set_option maxRecDepth 20000 in
theorem gX8_stroke_X8_isPlace : GoodIn wsX8_stroke (va_wsS RX8 47 yX8_isPlace wsX8_isPlace) := goodIn_app (goodIn_of _ (by decide +kernel)) ggX8_stroke_X8_isPlace
set_option maxRecDepth 20000 in
theorem ggX8_stroke_X4_init : GoodIn wsX8_stroke wsX4_init := goodIn_r _ [19, 20, 21, 22, 23, 24, 25, 26, 46, 47, 48, 49] (by decide +kernel) (by decide +kernel)
set_option maxRecDepth 20000 in
theorem gX8_stroke_X4_init : GoodIn wsX8_stroke (wsX4_init) := ggX8_stroke_X4_init
set_option maxRecDepth 20000 in
theorem ggX8_stroke_X5_add : GoodIn wsX8_stroke wsX5_add := goodIn_r _ [31, 32, 33, 44, 45] (by decide +kernel) (by decide +kernel)
set_option maxRecDepth 20000 in
theorem gX8_stroke_X5_add : GoodIn wsX8_stroke (wsV RX8 74 RX5 yX5_add wsX5_add) := goodIn_app (goodIn_of _ (by decide +kernel)) ggX8_stroke_X5_add
theorem dX8_stroke_0 : decode cX8_stroke 0 = .ok (.iload_n 1, 1) := by decide +kernel
theorem dX8_stroke_1 : decode cX8_stroke 1 = .ok (.iload_n 2, 1) := by decide +kernel
theorem dX8_stroke_2 : decode cX8_stroke 2 = .ok (.invokestatic 47, 3) := by decide +kernel
theorem dX8_stroke_5 : decode cX8_stroke 5 = .ok (.ifCond .eq 12, 3) := by decide +kernel
theorem dX8_stroke_8 : decode cX8_stroke 8 = .ok (.iload_n 3, 1) := by decide +kernel
theorem dX8_stroke_9 : decode cX8_stroke 9 = .ok (.iload 4, 2) := by decide +kernel
theorem dX8_stroke_11 : decode cX8_stroke 11 = .ok (.invokestatic 47, 3) := by decide +kernel
theorem dX8_stroke_14 : decode cX8_stroke 14 = .ok (.ifCond .ne 13, 3) := by decide +kernel
theorem dX8_stroke_17 : decode cX8_stroke 17 = .ok (.new 51, 3) := by decide +kernel
theorem dX8_stroke_20 : decode cX8_stroke 20 = .ok (.dup, 1) := by decide +kernel
theorem dX8_stroke_21 : decode cX8_stroke 21 = .ok (.ldc 53, 2) := by decide +kernel
theorem dX8_stroke_23 : decode cX8_stroke 23 = .ok (.invokespecial 55, 3) := by decide +kernel
theorem dX8_stroke_26 : decode cX8_stroke 26 = .ok (.athrow, 1) := by decide +kernel
theorem dX8_stroke_27 : decode cX8_stroke 27 = .ok (.iload_n 1, 1) := by decide +kernel
theorem dX8_stroke_28 : decode cX8_stroke 28 = .ok (.iload_n 3, 1) := by decide +kernel
theorem dX8_stroke_29 : decode cX8_stroke 29 = .ok (.if_icmp .ne 19, 3) := by decide +kernel
theorem dX8_stroke_32 : decode cX8_stroke 32 = .ok (.iload_n 2, 1) := by decide +kernel
theorem dX8_stroke_33 : decode cX8_stroke 33 = .ok (.iload 4, 2) := by decide +kernel
theorem dX8_stroke_35 : decode cX8_stroke 35 = .ok (.if_icmp .ne 13, 3) := by decide +kernel
theorem dX8_stroke_38 : decode cX8_stroke 38 = .ok (.new 51, 3) := by decide +kernel
theorem dX8_stroke_41 : decode cX8_stroke 41 = .ok (.dup, 1) := by decide +kernel
theorem dX8_stroke_42 : decode cX8_stroke 42 = .ok (.ldc 58, 2) := by decide +kernel
theorem dX8_stroke_44 : decode cX8_stroke 44 = .ok (.invokespecial 55, 3) := by decide +kernel
theorem dX8_stroke_47 : decode cX8_stroke 47 = .ok (.athrow, 1) := by decide +kernel
theorem dX8_stroke_48 : decode cX8_stroke 48 = .ok (.aload_n 0, 1) := by decide +kernel
theorem dX8_stroke_49 : decode cX8_stroke 49 = .ok (.getfield 40, 3) := by decide +kernel
theorem dX8_stroke_52 : decode cX8_stroke 52 = .ok (.getfield 60, 3) := by decide +kernel
theorem dX8_stroke_55 : decode cX8_stroke 55 = .ok (.bipush 8, 2) := by decide +kernel
theorem dX8_stroke_57 : decode cX8_stroke 57 = .ok (.if_icmp .lt 13, 3) := by decide +kernel
theorem dX8_stroke_60 : decode cX8_stroke 60 = .ok (.new 64, 3) := by decide +kernel
theorem dX8_stroke_63 : decode cX8_stroke 63 = .ok (.dup, 1) := by decide +kernel
theorem dX8_stroke_64 : decode cX8_stroke 64 = .ok (.ldc 66, 2) := by decide +kernel
theorem dX8_stroke_66 : decode cX8_stroke 66 = .ok (.invokespecial 68, 3) := by decide +kernel
theorem dX8_stroke_69 : decode cX8_stroke 69 = .ok (.athrow, 1) := by decide +kernel
theorem dX8_stroke_70 : decode cX8_stroke 70 = .ok (.aload_n 0, 1) := by decide +kernel
theorem dX8_stroke_71 : decode cX8_stroke 71 = .ok (.getfield 40, 3) := by decide +kernel
theorem dX8_stroke_74 : decode cX8_stroke 74 = .ok (.new 69, 3) := by decide +kernel
theorem dX8_stroke_77 : decode cX8_stroke 77 = .ok (.dup, 1) := by decide +kernel
theorem dX8_stroke_78 : decode cX8_stroke 78 = .ok (.iload_n 1, 1) := by decide +kernel
theorem dX8_stroke_79 : decode cX8_stroke 79 = .ok (.iload_n 2, 1) := by decide +kernel
theorem dX8_stroke_80 : decode cX8_stroke 80 = .ok (.iload_n 3, 1) := by decide +kernel
theorem dX8_stroke_81 : decode cX8_stroke 81 = .ok (.iload 4, 2) := by decide +kernel
theorem dX8_stroke_83 : decode cX8_stroke 83 = .ok (.invokespecial 71, 3) := by decide +kernel
theorem dX8_stroke_86 : decode cX8_stroke 86 = .ok (.invokevirtual 74, 3) := by decide +kernel
theorem dX8_stroke_89 : decode cX8_stroke 89 = .ok (.aload_n 0, 1) := by decide +kernel
theorem dX8_stroke_90 : decode cX8_stroke 90 = .ok (.getfield 40, 3) := by decide +kernel
theorem dX8_stroke_93 : decode cX8_stroke 93 = .ok (.getfield 60, 3) := by decide +kernel
theorem dX8_stroke_96 : decode cX8_stroke 96 = .ok (.ireturn, 1) := by decide +kernel
set_option maxRecDepth 20000 in
theorem ggX8_clear_X5_empty : GoodIn wsX8_clear wsX5_empty := goodIn_r _ [7, 8, 19, 20] (by decide +kernel) (by decide +kernel)
set_option maxRecDepth 20000 in
theorem gX8_clear_X5_empty : GoodIn wsX8_clear (wsV RX8 78 RX5 yX5_empty wsX5_empty) := goodIn_app (goodIn_of _ (by decide +kernel)) ggX8_clear_X5_empty
theorem dX8_clear_0 : decode cX8_clear 0 = .ok (.aload_n 0, 1) := by decide +kernel
theorem dX8_clear_1 : decode cX8_clear 1 = .ok (.getfield 40, 3) := by decide +kernel
theorem dX8_clear_4 : decode cX8_clear 4 = .ok (.getfield 60, 3) := by decide +kernel
theorem dX8_clear_7 : decode cX8_clear 7 = .ok (.istore_n 1, 1) := by decide +kernel
theorem dX8_clear_8 : decode cX8_clear 8 = .ok (.aload_n 0, 1) := by decide +kernel
theorem dX8_clear_9 : decode cX8_clear 9 = .ok (.getfield 40, 3) := by decide +kernel
theorem dX8_clear_12 : decode cX8_clear 12 = .ok (.invokevirtual 78, 3) := by decide +kernel
theorem dX8_clear_15 : decode cX8_clear 15 = .ok (.iload_n 1, 1) := by decide +kernel
theorem dX8_clear_16 : decode cX8_clear 16 = .ok (.ireturn, 1) := by decide +kernel
set_option maxRecDepth 20000 in
theorem ggX8_sign_X8_isWithin : GoodIn wsX8_sign wsX8_isWithin := goodIn_r _ [13] (by decide +kernel) (by decide +kernel)
set_option maxRecDepth 20000 in
theorem gX8_sign_X8_isWithin : GoodIn wsX8_sign (va_wsS RX8 86 yX8_isWithin wsX8_isWithin) := goodIn_app (goodIn_of _ (by decide +kernel)) ggX8_sign_X8_isWithin
set_option maxRecDepth 20000 in
theorem ggX8_sign_X5_init : GoodIn wsX8_sign wsX5_init := goodIn_r _ [15, 16, 17, 18, 19, 20, 31, 32] (by decide +kernel) (by decide +kernel)
set_option maxRecDepth 20000 in
theorem gX8_sign_X5_init_n39 : GoodIn wsX8_sign (wsX5_init) := ggX8_sign_X5_init
theorem dX8_sign_0 : decode cX8_sign 0 = .ok (.aload_n 0, 1) := by decide +kernel
theorem dX8_sign_1 : decode cX8_sign 1 = .ok (.getfield 40, 3) := by decide +kernel
theorem dX8_sign_4 : decode cX8_sign 4 = .ok (.getfield 60, 3) := by decide +kernel
theorem dX8_sign_7 : decode cX8_sign 7 = .ok (.ifCond .eq 15, 3) := by decide +kernel
theorem dX8_sign_10 : decode cX8_sign 10 = .ok (.aload_n 0, 1) := by decide +kernel
theorem dX8_sign_11 : decode cX8_sign 11 = .ok (.getfield 40, 3) := by decide +kernel
theorem dX8_sign_14 : decode cX8_sign 14 = .ok (.getfield 60, 3) := by decide +kernel
theorem dX8_sign_17 : decode cX8_sign 17 = .ok (.bipush 6, 2) := by decide +kernel
theorem dX8_sign_19 : decode cX8_sign 19 = .ok (.if_icmp .le 13, 3) := by decide +kernel
theorem dX8_sign_22 : decode cX8_sign 22 = .ok (.new 64, 3) := by decide +kernel
theorem dX8_sign_25 : decode cX8_sign 25 = .ok (.dup, 1) := by decide +kernel
theorem dX8_sign_26 : decode cX8_sign 26 = .ok (.ldc 81, 2) := by decide +kernel
theorem dX8_sign_28 : decode cX8_sign 28 = .ok (.invokespecial 68, 3) := by decide +kernel
theorem dX8_sign_31 : decode cX8_sign 31 = .ok (.athrow, 1) := by decide +kernel
theorem dX8_sign_32 : decode cX8_sign 32 = .ok (.aload_n 0, 1) := by decide +kernel
theorem dX8_sign_33 : decode cX8_sign 33 = .ok (.getfield 83, 3) := by decide +kernel
theorem dX8_sign_36 : decode cX8_sign 36 = .ok (.iconst 0, 1) := by decide +kernel
theorem dX8_sign_37 : decode cX8_sign 37 = .ok (.aload_n 0, 1) := by decide +kernel
theorem dX8_sign_38 : decode cX8_sign 38 = .ok (.getfield 11, 3) := by decide +kernel
theorem dX8_sign_41 : decode cX8_sign 41 = .ok (.arraylength, 1) := by decide +kernel
theorem dX8_sign_42 : decode cX8_sign 42 = .ok (.iconst 1, 1) := by decide +kernel
theorem dX8_sign_43 : decode cX8_sign 43 = .ok (.isub, 1) := by decide +kernel
theorem dX8_sign_44 : decode cX8_sign 44 = .ok (.invokestatic 86, 3) := by decide +kernel
theorem dX8_sign_47 : decode cX8_sign 47 = .ok (.ifCond .ne 13, 3) := by decide +kernel
theorem dX8_sign_50 : decode cX8_sign 50 = .ok (.new 64, 3) := by decide +kernel
theorem dX8_sign_53 : decode cX8_sign 53 = .ok (.dup, 1) := by decide +kernel
theorem dX8_sign_54 : decode cX8_sign 54 = .ok (.ldc 90, 2) := by decide +kernel
theorem dX8_sign_56 : decode cX8_sign 56 = .ok (.invokespecial 68, 3) := by decide +kernel
theorem dX8_sign_59 : decode cX8_sign 59 = .ok (.athrow, 1) := by decide +kernel
theorem dX8_sign_60 : decode cX8_sign 60 = .ok (.aload_n 0, 1) := by decide +kernel
theorem dX8_sign_61 : decode cX8_sign 61 = .ok (.getfield 83, 3) := by decide +kernel
theorem dX8_sign_64 : decode cX8_sign 64 = .ok (.istore_n 1, 1) := by decide +kernel
theorem dX8_sign_65 : decode cX8_sign 65 = .ok (.aload_n 0, 1) := by decide +kernel
theorem dX8_sign_66 : decode cX8_sign 66 = .ok (.getfield 11, 3) := by decide +kernel
theorem dX8_sign_69 : decode cX8_sign 69 = .ok (.iload_n 1, 1) := by decide +kernel
theorem dX8_sign_70 : decode cX8_sign 70 = .ok (.aload_n 0, 1) := by decide +kernel
theorem dX8_sign_71 : decode cX8_sign 71 = .ok (.getfield 40, 3) := by decide +kernel
theorem dX8_sign_74 : decode cX8_sign 74 = .ok (.aastore, 1) := by decide +kernel
theorem dX8_sign_75 : decode cX8_sign 75 = .ok (.aload_n 0, 1) := by decide +kernel
theorem dX8_sign_76 : decode cX8_sign 76 = .ok (.dup, 1) := by decide +kernel
theorem dX8_sign_77 : decode cX8_sign 77 = .ok (.getfield 83, 3) := by decide +kernel
theorem dX8_sign_80 : decode cX8_sign 80 = .ok (.iconst 1, 1) := by decide +kernel
theorem dX8_sign_81 : decode cX8_sign 81 = .ok (.iadd, 1) := by decide +kernel
theorem dX8_sign_82 : decode cX8_sign 82 = .ok (.putfield 83, 3) := by decide +kernel
theorem dX8_sign_85 : decode cX8_sign 85 = .ok (.aload_n 0, 1) := by decide +kernel
theorem dX8_sign_86 : decode cX8_sign 86 = .ok (.new 9, 3) := by decide +kernel
theorem dX8_sign_89 : decode cX8_sign 89 = .ok (.dup, 1) := by decide +kernel
theorem dX8_sign_90 : decode cX8_sign 90 = .ok (.invokespecial 39, 3) := by decide +kernel
theorem dX8_sign_93 : decode cX8_sign 93 = .ok (.putfield 40, 3) := by decide +kernel
theorem dX8_sign_96 : decode cX8_sign 96 = .ok (.iload_n 1, 1) := by decide +kernel
theorem dX8_sign_97 : decode cX8_sign 97 = .ok (.ireturn, 1) := by decide +kernel
set_option maxRecDepth 20000 in
theorem ggX8_buy_X8_paperAt : GoodIn wsX8_buy wsX8_paperAt := goodIn_r _ [12, 13, 20, 21, 22, 23, 24, 25, 26, 27, 28, 29] (by decide +kernel) (by decide +kernel)
set_option maxRecDepth 20000 in
theorem gX8_buy_X8_paperAt : GoodIn wsX8_buy (wsV RX8 92 RX8 yX8_paperAt wsX8_paperAt) := goodIn_app (goodIn_of _ (by decide +kernel)) ggX8_buy_X8_paperAt
set_option maxRecDepth 20000 in
theorem ggX8_buy_X8_isWithin : GoodIn wsX8_buy wsX8_isWithin := goodIn_r _ [16] (by decide +kernel) (by decide +kernel)
set_option maxRecDepth 20000 in
theorem gX8_buy_X8_isWithin : GoodIn wsX8_buy (va_wsS RX8 86 yX8_isWithin wsX8_isWithin) := goodIn_app (goodIn_of _ (by decide +kernel)) ggX8_buy_X8_isWithin
theorem dX8_buy_0 : decode cX8_buy 0 = .ok (.aload_n 0, 1) := by decide +kernel
theorem dX8_buy_1 : decode cX8_buy 1 = .ok (.iload_n 1, 1) := by decide +kernel
theorem dX8_buy_2 : decode cX8_buy 2 = .ok (.invokevirtual 92, 3) := by decide +kernel
theorem dX8_buy_5 : decode cX8_buy 5 = .ok (.astore_n 3, 1) := by decide +kernel
theorem dX8_buy_6 : decode cX8_buy 6 = .ok (.aload_n 3, 1) := by decide +kernel
theorem dX8_buy_7 : decode cX8_buy 7 = .ok (.ifnonnull 13, 3) := by decide +kernel
theorem dX8_buy_10 : decode cX8_buy 10 = .ok (.new 96, 3) := by decide +kernel
theorem dX8_buy_13 : decode cX8_buy 13 = .ok (.dup, 1) := by decide +kernel
theorem dX8_buy_14 : decode cX8_buy 14 = .ok (.ldc 98, 2) := by decide +kernel
theorem dX8_buy_16 : decode cX8_buy 16 = .ok (.invokespecial 100, 3) := by decide +kernel
theorem dX8_buy_19 : decode cX8_buy 19 = .ok (.athrow, 1) := by decide +kernel
theorem dX8_buy_20 : decode cX8_buy 20 = .ok (.iload_n 2, 1) := by decide +kernel
theorem dX8_buy_21 : decode cX8_buy 21 = .ok (.iconst 1, 1) := by decide +kernel
theorem dX8_buy_22 : decode cX8_buy 22 = .ok (.bipush 100, 2) := by decide +kernel
theorem dX8_buy_24 : decode cX8_buy 24 = .ok (.invokestatic 86, 3) := by decide +kernel
theorem dX8_buy_27 : decode cX8_buy 27 = .ok (.ifCond .ne 13, 3) := by decide +kernel
theorem dX8_buy_30 : decode cX8_buy 30 = .ok (.new 51, 3) := by decide +kernel
theorem dX8_buy_33 : decode cX8_buy 33 = .ok (.dup, 1) := by decide +kernel
theorem dX8_buy_34 : decode cX8_buy 34 = .ok (.ldc 101, 2) := by decide +kernel
theorem dX8_buy_36 : decode cX8_buy 36 = .ok (.invokespecial 55, 3) := by decide +kernel
theorem dX8_buy_39 : decode cX8_buy 39 = .ok (.athrow, 1) := by decide +kernel
theorem dX8_buy_40 : decode cX8_buy 40 = .ok (.aload_n 3, 1) := by decide +kernel
theorem dX8_buy_41 : decode cX8_buy 41 = .ok (.getfield 103, 3) := by decide +kernel
theorem dX8_buy_44 : decode cX8_buy 44 = .ok (.iload_n 2, 1) := by decide +kernel
theorem dX8_buy_45 : decode cX8_buy 45 = .ok (.iadd, 1) := by decide +kernel
theorem dX8_buy_46 : decode cX8_buy 46 = .ok (.sipush 1000, 3) := by decide +kernel
theorem dX8_buy_49 : decode cX8_buy 49 = .ok (.if_icmp .le 13, 3) := by decide +kernel
theorem dX8_buy_52 : decode cX8_buy 52 = .ok (.new 64, 3) := by decide +kernel
theorem dX8_buy_55 : decode cX8_buy 55 = .ok (.dup, 1) := by decide +kernel
theorem dX8_buy_56 : decode cX8_buy 56 = .ok (.ldc 106, 2) := by decide +kernel
theorem dX8_buy_58 : decode cX8_buy 58 = .ok (.invokespecial 68, 3) := by decide +kernel
theorem dX8_buy_61 : decode cX8_buy 61 = .ok (.athrow, 1) := by decide +kernel
theorem dX8_buy_62 : decode cX8_buy 62 = .ok (.aload_n 3, 1) := by decide +kernel
theorem dX8_buy_63 : decode cX8_buy 63 = .ok (.dup, 1) := by decide +kernel
theorem dX8_buy_64 : decode cX8_buy 64 = .ok (.getfield 103, 3) := by decide +kernel
theorem dX8_buy_67 : decode cX8_buy 67 = .ok (.iload_n 2, 1) := by decide +kernel
theorem dX8_buy_68 : decode cX8_buy 68 = .ok (.iadd, 1) := by decide +kernel
theorem dX8_buy_69 : decode cX8_buy 69 = .ok (.putfield 103, 3) := by decide +kernel
theorem dX8_buy_72 : decode cX8_buy 72 = .ok (.aload_n 3, 1) := by decide +kernel
theorem dX8_buy_73 : decode cX8_buy 73 = .ok (.getfield 103, 3) := by decide +kernel
theorem dX8_buy_76 : decode cX8_buy 76 = .ok (.ireturn, 1) := by decide +kernel
set_option maxRecDepth 20000 in
theorem ggX8_rise_X8_paperAt : GoodIn wsX8_rise wsX8_paperAt := goodIn_r _ [11, 12, 19, 20, 21, 22, 23, 24, 25, 26, 27, 28] (by decide +kernel) (by decide +kernel)
set_option maxRecDepth 20000 in
theorem gX8_rise_X8_paperAt : GoodIn wsX8_rise (wsV RX8 92 RX8 yX8_paperAt wsX8_paperAt) := goodIn_app (goodIn_of _ (by decide +kernel)) ggX8_rise_X8_paperAt
set_option maxRecDepth 20000 in
theorem ggX8_rise_X8_isWithin : GoodIn wsX8_rise wsX8_isWithin := goodIn_r _ [15] (by decide +kernel) (by decide +kernel)
