theorem dX8_duel_29 : decode cX8_duel 29 = .ok (.ifnull 12, 3) := by decide +kernel
theorem dX8_duel_32 : decode cX8_duel 32 = .ok (.aload_n 0, 1) := by decide +kernel
theorem dX8_duel_33 : decode cX8_duel 33 = .ok (.iload 4, 2) := by decide +kernel
theorem dX8_duel_35 : decode cX8_duel 35 = .ok (.invokevirtual 92, 3) := by decide +kernel
theorem dX8_duel_38 : decode cX8_duel 38 = .ok (.ifnonnull 13, 3) := by decide +kernel
theorem dX8_duel_41 : decode cX8_duel 41 = .ok (.new 96, 3) := by decide +kernel
theorem dX8_duel_44 : decode cX8_duel 44 = .ok (.dup, 1) := by decide +kernel
theorem dX8_duel_45 : decode cX8_duel 45 = .ok (.ldc 169, 2) := by decide +kernel
theorem dX8_duel_47 : decode cX8_duel 47 = .ok (.invokespecial 100, 3) := by decide +kernel
theorem dX8_duel_50 : decode cX8_duel 50 = .ok (.athrow, 1) := by decide +kernel
theorem dX8_duel_51 : decode cX8_duel 51 = .ok (.iload_n 1, 1) := by decide +kernel
theorem dX8_duel_52 : decode cX8_duel 52 = .ok (.iload_n 2, 1) := by decide +kernel
theorem dX8_duel_53 : decode cX8_duel 53 = .ok (.if_icmp .ne 13, 3) := by decide +kernel
theorem dX8_duel_56 : decode cX8_duel 56 = .ok (.new 51, 3) := by decide +kernel
theorem dX8_duel_59 : decode cX8_duel 59 = .ok (.dup, 1) := by decide +kernel
theorem dX8_duel_60 : decode cX8_duel 60 = .ok (.ldc 171, 2) := by decide +kernel
theorem dX8_duel_62 : decode cX8_duel 62 = .ok (.invokespecial 55, 3) := by decide +kernel
theorem dX8_duel_65 : decode cX8_duel 65 = .ok (.athrow, 1) := by decide +kernel
theorem dX8_duel_66 : decode cX8_duel 66 = .ok (.iload 5, 2) := by decide +kernel
theorem dX8_duel_68 : decode cX8_duel 68 = .ok (.iconst 1, 1) := by decide +kernel
theorem dX8_duel_69 : decode cX8_duel 69 = .ok (.iconst 5, 1) := by decide +kernel
theorem dX8_duel_70 : decode cX8_duel 70 = .ok (.invokestatic 86, 3) := by decide +kernel
theorem dX8_duel_73 : decode cX8_duel 73 = .ok (.ifCond .eq 15, 3) := by decide +kernel
theorem dX8_duel_76 : decode cX8_duel 76 = .ok (.iload 6, 2) := by decide +kernel
theorem dX8_duel_78 : decode cX8_duel 78 = .ok (.iconst 0, 1) := by decide +kernel
theorem dX8_duel_79 : decode cX8_duel 79 = .ok (.sipush 999, 3) := by decide +kernel
theorem dX8_duel_82 : decode cX8_duel 82 = .ok (.invokestatic 86, 3) := by decide +kernel
theorem dX8_duel_85 : decode cX8_duel 85 = .ok (.ifCond .ne 13, 3) := by decide +kernel
theorem dX8_duel_88 : decode cX8_duel 88 = .ok (.new 51, 3) := by decide +kernel
theorem dX8_duel_91 : decode cX8_duel 91 = .ok (.dup, 1) := by decide +kernel
theorem dX8_duel_92 : decode cX8_duel 92 = .ok (.ldc 173, 2) := by decide +kernel
theorem dX8_duel_94 : decode cX8_duel 94 = .ok (.invokespecial 55, 3) := by decide +kernel
theorem dX8_duel_97 : decode cX8_duel 97 = .ok (.athrow, 1) := by decide +kernel
theorem dX8_duel_98 : decode cX8_duel 98 = .ok (.aload_n 0, 1) := by decide +kernel
theorem dX8_duel_99 : decode cX8_duel 99 = .ok (.getfield 83, 3) := by decide +kernel
theorem dX8_duel_102 : decode cX8_duel 102 = .ok (.ifCond .eq 21, 3) := by decide +kernel
theorem dX8_duel_105 : decode cX8_duel 105 = .ok (.aload_n 0, 1) := by decide +kernel
theorem dX8_duel_106 : decode cX8_duel 106 = .ok (.getfield 175, 3) := by decide +kernel
theorem dX8_duel_109 : decode cX8_duel 109 = .ok (.iconst 0, 1) := by decide +kernel
theorem dX8_duel_110 : decode cX8_duel 110 = .ok (.aload_n 0, 1) := by decide +kernel
theorem dX8_duel_111 : decode cX8_duel 111 = .ok (.getfield 35, 3) := by decide +kernel
theorem dX8_duel_114 : decode cX8_duel 114 = .ok (.arraylength, 1) := by decide +kernel
theorem dX8_duel_115 : decode cX8_duel 115 = .ok (.iconst 1, 1) := by decide +kernel
theorem dX8_duel_116 : decode cX8_duel 116 = .ok (.isub, 1) := by decide +kernel
theorem dX8_duel_117 : decode cX8_duel 117 = .ok (.invokestatic 86, 3) := by decide +kernel
theorem dX8_duel_120 : decode cX8_duel 120 = .ok (.ifCond .ne 13, 3) := by decide +kernel
theorem dX8_duel_123 : decode cX8_duel 123 = .ok (.new 64, 3) := by decide +kernel
theorem dX8_duel_126 : decode cX8_duel 126 = .ok (.dup, 1) := by decide +kernel
theorem dX8_duel_127 : decode cX8_duel 127 = .ok (.ldc 178, 2) := by decide +kernel
theorem dX8_duel_129 : decode cX8_duel 129 = .ok (.invokespecial 68, 3) := by decide +kernel
theorem dX8_duel_132 : decode cX8_duel 132 = .ok (.athrow, 1) := by decide +kernel
theorem dX8_duel_133 : decode cX8_duel 133 = .ok (.aload_n 0, 1) := by decide +kernel
theorem dX8_duel_134 : decode cX8_duel 134 = .ok (.getfield 175, 3) := by decide +kernel
theorem dX8_duel_137 : decode cX8_duel 137 = .ok (.istore 7, 2) := by decide +kernel
theorem dX8_duel_139 : decode cX8_duel 139 = .ok (.new 33, 3) := by decide +kernel
theorem dX8_duel_142 : decode cX8_duel 142 = .ok (.dup, 1) := by decide +kernel
theorem dX8_duel_143 : decode cX8_duel 143 = .ok (.iload_n 1, 1) := by decide +kernel
theorem dX8_duel_144 : decode cX8_duel 144 = .ok (.iload_n 2, 1) := by decide +kernel
theorem dX8_duel_145 : decode cX8_duel 145 = .ok (.iload_n 3, 1) := by decide +kernel
theorem dX8_duel_146 : decode cX8_duel 146 = .ok (.iload 4, 2) := by decide +kernel
theorem dX8_duel_148 : decode cX8_duel 148 = .ok (.iload 5, 2) := by decide +kernel
theorem dX8_duel_150 : decode cX8_duel 150 = .ok (.aload_n 0, 1) := by decide +kernel
theorem dX8_duel_151 : decode cX8_duel 151 = .ok (.getfield 139, 3) := by decide +kernel
theorem dX8_duel_154 : decode cX8_duel 154 = .ok (.invokespecial 180, 3) := by decide +kernel
theorem dX8_duel_157 : decode cX8_duel 157 = .ok (.astore 8, 2) := by decide +kernel
theorem dX8_duel_159 : decode cX8_duel 159 = .ok (.aload 8, 2) := by decide +kernel
theorem dX8_duel_161 : decode cX8_duel 161 = .ok (.iload 6, 2) := by decide +kernel
theorem dX8_duel_163 : decode cX8_duel 163 = .ok (.aload_n 0, 1) := by decide +kernel
theorem dX8_duel_164 : decode cX8_duel 164 = .ok (.getfield 83, 3) := by decide +kernel
theorem dX8_duel_167 : decode cX8_duel 167 = .ok (.invokevirtual 183, 3) := by decide +kernel
theorem dX8_duel_170 : decode cX8_duel 170 = .ok (.aload_n 0, 1) := by decide +kernel
theorem dX8_duel_171 : decode cX8_duel 171 = .ok (.getfield 35, 3) := by decide +kernel
theorem dX8_duel_174 : decode cX8_duel 174 = .ok (.iload 7, 2) := by decide +kernel
theorem dX8_duel_176 : decode cX8_duel 176 = .ok (.aload 8, 2) := by decide +kernel
theorem dX8_duel_178 : decode cX8_duel 178 = .ok (.aastore, 1) := by decide +kernel
theorem dX8_duel_179 : decode cX8_duel 179 = .ok (.aload_n 0, 1) := by decide +kernel
theorem dX8_duel_180 : decode cX8_duel 180 = .ok (.dup, 1) := by decide +kernel
theorem dX8_duel_181 : decode cX8_duel 181 = .ok (.getfield 175, 3) := by decide +kernel
theorem dX8_duel_184 : decode cX8_duel 184 = .ok (.iconst 1, 1) := by decide +kernel
theorem dX8_duel_185 : decode cX8_duel 185 = .ok (.iadd, 1) := by decide +kernel
theorem dX8_duel_186 : decode cX8_duel 186 = .ok (.putfield 175, 3) := by decide +kernel
theorem dX8_duel_189 : decode cX8_duel 189 = .ok (.iload 7, 2) := by decide +kernel
theorem dX8_duel_191 : decode cX8_duel 191 = .ok (.ireturn, 1) := by decide +kernel
set_option maxRecDepth 20000 in
theorem ggX8_hand_X8_duelAt : GoodIn wsX8_hand wsX8_duelAt := goodIn_r _ [21, 22, 132, 133, 134, 135, 136, 137, 138, 139, 140, 141] (by decide +kernel) (by decide +kernel)
set_option maxRecDepth 20000 in
theorem gX8_hand_X8_duelAt : GoodIn wsX8_hand (wsV RX8 186 RX8 yX8_duelAt wsX8_duelAt) := goodIn_app (goodIn_of _ (by decide +kernel)) ggX8_hand_X8_duelAt
set_option maxRecDepth 20000 in
theorem ggX8_hand_X8_isWithin : GoodIn wsX8_hand wsX8_isWithin := goodIn_r _ [25] (by decide +kernel) (by decide +kernel)
set_option maxRecDepth 20000 in
theorem gX8_hand_X8_isWithin : GoodIn wsX8_hand (va_wsS RX8 86 yX8_isWithin wsX8_isWithin) := goodIn_app (goodIn_of _ (by decide +kernel)) ggX8_hand_X8_isWithin
set_option maxRecDepth 20000 in
theorem ggX8_hand_X0_promptAt : GoodIn wsX8_hand wsX0_promptAt := goodIn_r _ [30, 31, 122, 123, 124, 125, 126, 127, 128, 129, 130, 131] (by decide +kernel) (by decide +kernel)
set_option maxRecDepth 20000 in
theorem gX8_hand_X0_promptAt : GoodIn wsX8_hand (wsV RX8 197 RX0 yX0_promptAt wsX0_promptAt) := goodIn_app (goodIn_of _ (by decide +kernel)) ggX8_hand_X0_promptAt
set_option maxRecDepth 20000 in
theorem ggX8_hand_X8_signAt : GoodIn wsX8_hand wsX8_signAt := goodIn_r _ [35, 36, 132, 133, 134, 135, 136, 137, 138, 139, 140, 141] (by decide +kernel) (by decide +kernel)
set_option maxRecDepth 20000 in
theorem gX8_hand_X8_signAt : GoodIn wsX8_hand (wsV RX8 201 RX8 yX8_signAt wsX8_signAt) := goodIn_app (goodIn_of _ (by decide +kernel)) ggX8_hand_X8_signAt
set_option maxRecDepth 20000 in
theorem ggX8_hand_X0_isOver : GoodIn wsX8_hand wsX0_isOver := goodIn_r _ [40, 41, 42, 122, 123, 124, 125, 126, 127, 128, 129, 130, 131] (by decide +kernel) (by decide +kernel)
set_option maxRecDepth 20000 in
theorem gX8_hand_X0_isOver : GoodIn wsX8_hand (wsV RX8 205 RX0 yX0_isOver wsX0_isOver) := goodIn_app (goodIn_of _ (by decide +kernel)) ggX8_hand_X0_isOver
set_option maxRecDepth 20000 in
theorem ggX8_hand_X8_paperAt : GoodIn wsX8_hand wsX8_paperAt := goodIn_r _ [46, 47, 132, 133, 134, 135, 136, 137, 138, 139, 140, 141] (by decide +kernel) (by decide +kernel)
set_option maxRecDepth 20000 in
theorem gX8_hand_X8_paperAt : GoodIn wsX8_hand (wsV RX8 92 RX8 yX8_paperAt wsX8_paperAt) := goodIn_app (goodIn_of _ (by decide +kernel)) ggX8_hand_X8_paperAt
set_option maxRecDepth 20000 in
theorem ggX8_hand_X0_nextWriter : GoodIn wsX8_hand wsX0_nextWriter := goodIn_r _ [51, 41, 52, 53, 122, 123, 124, 125, 126, 127, 128, 129, 130, 131] (by decide +kernel) (by decide +kernel)
set_option maxRecDepth 20000 in
theorem gX8_hand_X0_nextWriter : GoodIn wsX8_hand (wsV RX8 219 RX0 yX0_nextWriter wsX0_nextWriter) := goodIn_app (goodIn_of _ (by decide +kernel)) ggX8_hand_X0_nextWriter
set_option maxRecDepth 20000 in
theorem ggX8_hand_X8_rightSeal : GoodIn wsX8_hand wsX8_rightSeal := goodIn_r _ [56] (by decide +kernel) (by decide +kernel)
set_option maxRecDepth 20000 in
theorem gX8_hand_X8_rightSeal : GoodIn wsX8_hand (va_wsS RX8 222 yX8_rightSeal wsX8_rightSeal) := goodIn_app (goodIn_of _ (by decide +kernel)) ggX8_hand_X8_rightSeal
set_option maxRecDepth 20000 in
theorem ggX8_hand_X7_init : GoodIn wsX8_hand wsX7_init := goodIn_r _ [59, 60, 61, 62, 63, 64, 65, 66, 67, 68, 69, 70, 71, 72, 73, 74, 75, 76, 77, 78, 79, 80, 81, 82, 83, 84, 85, 86, 87, 88, 89, 90, 91, 92, 93, 94, 95, 96, 97, 98, 99, 100, 101, 102, 103, 104, 105, 106, 107, 108, 109, 110, 111, 112, 147, 148, 149, 150, 142, 143, 151, 152, 153, 154, 155, 156, 157] (by decide +kernel) (by decide +kernel)
set_option maxRecDepth 20000 in
theorem gX8_hand_X7_init : GoodIn wsX8_hand (wsX7_init) := ggX8_hand_X7_init
set_option maxRecDepth 20000 in
theorem ggX8_hand_X0_add : GoodIn wsX8_hand wsX0_add := goodIn_r _ [116, 41, 117, 122, 123, 124, 125, 126, 127, 128, 129, 130, 131] (by decide +kernel) (by decide +kernel)
set_option maxRecDepth 20000 in
theorem gX8_hand_X0_add : GoodIn wsX8_hand (wsV RX8 231 RX0 yX0_add wsX0_add) := goodIn_app (goodIn_of _ (by decide +kernel)) ggX8_hand_X0_add
set_option maxRecDepth 20000 in
theorem ggX8_hand_X5_empty : GoodIn wsX8_hand wsX5_empty := goodIn_r _ [121, 81, 142, 143] (by decide +kernel) (by decide +kernel)
set_option maxRecDepth 20000 in
theorem gX8_hand_X5_empty : GoodIn wsX8_hand (wsV RX8 78 RX5 yX5_empty wsX5_empty) := goodIn_app (goodIn_of _ (by decide +kernel)) ggX8_hand_X5_empty
theorem dX8_hand_0 : decode cX8_hand 0 = .ok (.aload_n 0, 1) := by decide +kernel
theorem dX8_hand_1 : decode cX8_hand 1 = .ok (.iload_n 1, 1) := by decide +kernel
theorem dX8_hand_2 : decode cX8_hand 2 = .ok (.invokevirtual 186, 3) := by decide +kernel
theorem dX8_hand_5 : decode cX8_hand 5 = .ok (.astore_n 3, 1) := by decide +kernel
theorem dX8_hand_6 : decode cX8_hand 6 = .ok (.aload_n 3, 1) := by decide +kernel
theorem dX8_hand_7 : decode cX8_hand 7 = .ok (.ifnonnull 13, 3) := by decide +kernel
theorem dX8_hand_10 : decode cX8_hand 10 = .ok (.new 96, 3) := by decide +kernel
theorem dX8_hand_13 : decode cX8_hand 13 = .ok (.dup, 1) := by decide +kernel
theorem dX8_hand_14 : decode cX8_hand 14 = .ok (.ldc 190, 2) := by decide +kernel
theorem dX8_hand_16 : decode cX8_hand 16 = .ok (.invokespecial 100, 3) := by decide +kernel
theorem dX8_hand_19 : decode cX8_hand 19 = .ok (.athrow, 1) := by decide +kernel
theorem dX8_hand_20 : decode cX8_hand 20 = .ok (.iload_n 2, 1) := by decide +kernel
theorem dX8_hand_21 : decode cX8_hand 21 = .ok (.iconst 0, 1) := by decide +kernel
theorem dX8_hand_22 : decode cX8_hand 22 = .ok (.sipush 999, 3) := by decide +kernel
theorem dX8_hand_25 : decode cX8_hand 25 = .ok (.invokestatic 86, 3) := by decide +kernel
theorem dX8_hand_28 : decode cX8_hand 28 = .ok (.ifCond .ne 13, 3) := by decide +kernel
theorem dX8_hand_31 : decode cX8_hand 31 = .ok (.new 51, 3) := by decide +kernel
theorem dX8_hand_34 : decode cX8_hand 34 = .ok (.dup, 1) := by decide +kernel
theorem dX8_hand_35 : decode cX8_hand 35 = .ok (.ldc 192, 2) := by decide +kernel
theorem dX8_hand_37 : decode cX8_hand 37 = .ok (.invokespecial 55, 3) := by decide +kernel
theorem dX8_hand_40 : decode cX8_hand 40 = .ok (.athrow, 1) := by decide +kernel
theorem dX8_hand_41 : decode cX8_hand 41 = .ok (.aload_n 0, 1) := by decide +kernel
theorem dX8_hand_42 : decode cX8_hand 42 = .ok (.aload_n 3, 1) := by decide +kernel
theorem dX8_hand_43 : decode cX8_hand 43 = .ok (.aload_n 3, 1) := by decide +kernel
theorem dX8_hand_44 : decode cX8_hand 44 = .ok (.getfield 194, 3) := by decide +kernel
theorem dX8_hand_47 : decode cX8_hand 47 = .ok (.iconst 2, 1) := by decide +kernel
theorem dX8_hand_48 : decode cX8_hand 48 = .ok (.idiv, 1) := by decide +kernel
theorem dX8_hand_49 : decode cX8_hand 49 = .ok (.invokevirtual 197, 3) := by decide +kernel
theorem dX8_hand_52 : decode cX8_hand 52 = .ok (.invokevirtual 201, 3) := by decide +kernel
theorem dX8_hand_55 : decode cX8_hand 55 = .ok (.astore 4, 2) := by decide +kernel
theorem dX8_hand_57 : decode cX8_hand 57 = .ok (.aload_n 3, 1) := by decide +kernel
theorem dX8_hand_58 : decode cX8_hand 58 = .ok (.invokevirtual 205, 3) := by decide +kernel
theorem dX8_hand_61 : decode cX8_hand 61 = .ok (.ifCond .ne 8, 3) := by decide +kernel
theorem dX8_hand_64 : decode cX8_hand 64 = .ok (.aload 4, 2) := by decide +kernel
theorem dX8_hand_66 : decode cX8_hand 66 = .ok (.ifnonnull 13, 3) := by decide +kernel
theorem dX8_hand_69 : decode cX8_hand 69 = .ok (.new 64, 3) := by decide +kernel
theorem dX8_hand_72 : decode cX8_hand 72 = .ok (.dup, 1) := by decide +kernel
theorem dX8_hand_73 : decode cX8_hand 73 = .ok (.ldc 209, 2) := by decide +kernel
theorem dX8_hand_75 : decode cX8_hand 75 = .ok (.invokespecial 68, 3) := by decide +kernel
theorem dX8_hand_78 : decode cX8_hand 78 = .ok (.athrow, 1) := by decide +kernel
theorem dX8_hand_79 : decode cX8_hand 79 = .ok (.aload_n 0, 1) := by decide +kernel
theorem dX8_hand_80 : decode cX8_hand 80 = .ok (.aload_n 3, 1) := by decide +kernel
theorem dX8_hand_81 : decode cX8_hand 81 = .ok (.getfield 211, 3) := by decide +kernel
theorem dX8_hand_84 : decode cX8_hand 84 = .ok (.invokevirtual 92, 3) := by decide +kernel
theorem dX8_hand_87 : decode cX8_hand 87 = .ok (.astore 5, 2) := by decide +kernel
theorem dX8_hand_89 : decode cX8_hand 89 = .ok (.aload_n 0, 1) := by decide +kernel
theorem dX8_hand_90 : decode cX8_hand 90 = .ok (.getfield 40, 3) := by decide +kernel
theorem dX8_hand_93 : decode cX8_hand 93 = .ok (.getfield 60, 3) := by decide +kernel
theorem dX8_hand_96 : decode cX8_hand 96 = .ok (.ifCond .eq 16, 3) := by decide +kernel
theorem dX8_hand_99 : decode cX8_hand 99 = .ok (.aload 5, 2) := by decide +kernel
theorem dX8_hand_101 : decode cX8_hand 101 = .ok (.ifnull 11, 3) := by decide +kernel
theorem dX8_hand_104 : decode cX8_hand 104 = .ok (.aload 5, 2) := by decide +kernel
theorem dX8_hand_106 : decode cX8_hand 106 = .ok (.getfield 103, 3) := by decide +kernel
theorem dX8_hand_109 : decode cX8_hand 109 = .ok (.ifCond .gt 13, 3) := by decide +kernel
theorem dX8_hand_112 : decode cX8_hand 112 = .ok (.new 64, 3) := by decide +kernel
theorem dX8_hand_115 : decode cX8_hand 115 = .ok (.dup, 1) := by decide +kernel
theorem dX8_hand_116 : decode cX8_hand 116 = .ok (.ldc 214, 2) := by decide +kernel
theorem dX8_hand_118 : decode cX8_hand 118 = .ok (.invokespecial 68, 3) := by decide +kernel
theorem dX8_hand_121 : decode cX8_hand 121 = .ok (.athrow, 1) := by decide +kernel
theorem dX8_hand_122 : decode cX8_hand 122 = .ok (.aload 5, 2) := by decide +kernel
theorem dX8_hand_124 : decode cX8_hand 124 = .ok (.dup, 1) := by decide +kernel
theorem dX8_hand_125 : decode cX8_hand 125 = .ok (.getfield 103, 3) := by decide +kernel
theorem dX8_hand_128 : decode cX8_hand 128 = .ok (.iconst 1, 1) := by decide +kernel
theorem dX8_hand_129 : decode cX8_hand 129 = .ok (.isub, 1) := by decide +kernel
theorem dX8_hand_130 : decode cX8_hand 130 = .ok (.putfield 103, 3) := by decide +kernel
theorem dX8_hand_133 : decode cX8_hand 133 = .ok (.aload_n 0, 1) := by decide +kernel
theorem dX8_hand_134 : decode cX8_hand 134 = .ok (.dup, 1) := by decide +kernel
theorem dX8_hand_135 : decode cX8_hand 135 = .ok (.getfield 216, 3) := by decide +kernel
theorem dX8_hand_138 : decode cX8_hand 138 = .ok (.iconst 1, 1) := by decide +kernel
theorem dX8_hand_139 : decode cX8_hand 139 = .ok (.iadd, 1) := by decide +kernel
theorem dX8_hand_140 : decode cX8_hand 140 = .ok (.putfield 216, 3) := by decide +kernel
theorem dX8_hand_143 : decode cX8_hand 143 = .ok (.iload_n 2, 1) := by decide +kernel
theorem dX8_hand_144 : decode cX8_hand 144 = .ok (.aload_n 3, 1) := by decide +kernel
theorem dX8_hand_145 : decode cX8_hand 145 = .ok (.invokevirtual 219, 3) := by decide +kernel
theorem dX8_hand_148 : decode cX8_hand 148 = .ok (.aload_n 0, 1) := by decide +kernel
theorem dX8_hand_149 : decode cX8_hand 149 = .ok (.getfield 216, 3) := by decide +kernel
theorem dX8_hand_152 : decode cX8_hand 152 = .ok (.invokestatic 222, 3) := by decide +kernel
theorem dX8_hand_155 : decode cX8_hand 155 = .ok (.if_icmp .eq 7, 3) := by decide +kernel
theorem dX8_hand_158 : decode cX8_hand 158 = .ok (.iconst 1, 1) := by decide +kernel
theorem dX8_hand_159 : decode cX8_hand 159 = .ok (.goto 4, 3) := by decide +kernel
theorem dX8_hand_162 : decode cX8_hand 162 = .ok (.iconst 0, 1) := by decide +kernel
theorem dX8_hand_163 : decode cX8_hand 163 = .ok (.istore 6, 2) := by decide +kernel
theorem dX8_hand_165 : decode cX8_hand 165 = .ok (.aload_n 3, 1) := by decide +kernel
theorem dX8_hand_166 : decode cX8_hand 166 = .ok (.new 226, 3) := by decide +kernel
theorem dX8_hand_169 : decode cX8_hand 169 = .ok (.dup, 1) := by decide +kernel
theorem dX8_hand_170 : decode cX8_hand 170 = .ok (.aload_n 0, 1) := by decide +kernel
theorem dX8_hand_171 : decode cX8_hand 171 = .ok (.getfield 40, 3) := by decide +kernel
theorem dX8_hand_174 : decode cX8_hand 174 = .ok (.aload 4, 2) := by decide +kernel
theorem dX8_hand_176 : decode cX8_hand 176 = .ok (.aload 5, 2) := by decide +kernel
theorem dX8_hand_178 : decode cX8_hand 178 = .ok (.getfield 113, 3) := by decide +kernel
theorem dX8_hand_181 : decode cX8_hand 181 = .ok (.iload 6, 2) := by decide +kernel
theorem dX8_hand_183 : decode cX8_hand 183 = .ok (.invokespecial 228, 3) := by decide +kernel
theorem dX8_hand_186 : decode cX8_hand 186 = .ok (.invokevirtual 231, 3) := by decide +kernel
theorem dX8_hand_189 : decode cX8_hand 189 = .ok (.aload_n 0, 1) := by decide +kernel
theorem dX8_hand_190 : decode cX8_hand 190 = .ok (.getfield 40, 3) := by decide +kernel
theorem dX8_hand_193 : decode cX8_hand 193 = .ok (.invokevirtual 78, 3) := by decide +kernel
theorem dX8_hand_196 : decode cX8_hand 196 = .ok (.aload_n 0, 1) := by decide +kernel
theorem dX8_hand_197 : decode cX8_hand 197 = .ok (.getfield 216, 3) := by decide +kernel
theorem dX8_hand_200 : decode cX8_hand 200 = .ok (.ireturn, 1) := by decide +kernel
set_option maxRecDepth 20000 in
theorem ggX8_look_X8_duelAt : GoodIn wsX8_look wsX8_duelAt := goodIn_r _ [9, 10, 21, 22, 23, 24, 25, 26, 27, 28, 29, 30] (by decide +kernel) (by decide +kernel)
