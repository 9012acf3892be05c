theorem dX9_prompt_5 : decode cX9_prompt 5 = .ok (.ifCond .eq 33, 3) := by decide +kernel
theorem dX9_prompt_8 : decode cX9_prompt 8 = .ok (.iload_n 2, 1) := by decide +kernel
theorem dX9_prompt_9 : decode cX9_prompt 9 = .ok (.ifCond .lt 29, 3) := by decide +kernel
theorem dX9_prompt_12 : decode cX9_prompt 12 = .ok (.iload_n 2, 1) := by decide +kernel
theorem dX9_prompt_13 : decode cX9_prompt 13 = .ok (.aload_n 0, 1) := by decide +kernel
theorem dX9_prompt_14 : decode cX9_prompt 14 = .ok (.getfield 49, 3) := by decide +kernel
theorem dX9_prompt_17 : decode cX9_prompt 17 = .ok (.aload_n 0, 1) := by decide +kernel
theorem dX9_prompt_18 : decode cX9_prompt 18 = .ok (.iload_n 1, 1) := by decide +kernel
theorem dX9_prompt_19 : decode cX9_prompt 19 = .ok (.invokevirtual 108, 3) := by decide +kernel
theorem dX9_prompt_22 : decode cX9_prompt 22 = .ok (.ifCond .eq 7, 3) := by decide +kernel
theorem dX9_prompt_25 : decode cX9_prompt 25 = .ok (.iload_n 1, 1) := by decide +kernel
theorem dX9_prompt_26 : decode cX9_prompt 26 = .ok (.goto 4, 3) := by decide +kernel
theorem dX9_prompt_29 : decode cX9_prompt 29 = .ok (.iconst 0, 1) := by decide +kernel
theorem dX9_prompt_30 : decode cX9_prompt 30 = .ok (.iaload, 1) := by decide +kernel
theorem dX9_prompt_31 : decode cX9_prompt 31 = .ok (.if_icmp .ge 7, 3) := by decide +kernel
theorem dX9_prompt_34 : decode cX9_prompt 34 = .ok (.iconst 1, 1) := by decide +kernel
theorem dX9_prompt_35 : decode cX9_prompt 35 = .ok (.goto 4, 3) := by decide +kernel
theorem dX9_prompt_38 : decode cX9_prompt 38 = .ok (.iconst 0, 1) := by decide +kernel
theorem dX9_prompt_39 : decode cX9_prompt 39 = .ok (.istore_n 3, 1) := by decide +kernel
theorem dX9_prompt_40 : decode cX9_prompt 40 = .ok (.aload_n 0, 1) := by decide +kernel
theorem dX9_prompt_41 : decode cX9_prompt 41 = .ok (.iload_n 3, 1) := by decide +kernel
theorem dX9_prompt_42 : decode cX9_prompt 42 = .ok (.iconst 1, 1) := by decide +kernel
theorem dX9_prompt_43 : decode cX9_prompt 43 = .ok (.iconst 1, 1) := by decide +kernel
theorem dX9_prompt_44 : decode cX9_prompt 44 = .ok (.invokevirtual 97, 3) := by decide +kernel
theorem dX9_prompt_47 : decode cX9_prompt 47 = .ok (.ifCond .eq 12, 3) := by decide +kernel
theorem dX9_prompt_50 : decode cX9_prompt 50 = .ok (.aload_n 0, 1) := by decide +kernel
theorem dX9_prompt_51 : decode cX9_prompt 51 = .ok (.iload_n 1, 1) := by decide +kernel
theorem dX9_prompt_52 : decode cX9_prompt 52 = .ok (.iload_n 2, 1) := by decide +kernel
theorem dX9_prompt_53 : decode cX9_prompt 53 = .ok (.invokevirtual 148, 3) := by decide +kernel
theorem dX9_prompt_56 : decode cX9_prompt 56 = .ok (.goto 4, 3) := by decide +kernel
theorem dX9_prompt_59 : decode cX9_prompt 59 = .ok (.iconst 0, 1) := by decide +kernel
theorem dX9_prompt_60 : decode cX9_prompt 60 = .ok (.ireturn, 1) := by decide +kernel
set_option maxRecDepth 20000 in
theorem ggX9_mark_X9_isSign : GoodIn wsX9_mark wsX9_isSign := goodIn_r _ [7, 8, 9, 10, 6, 11, 42, 43, 44, 45, 46, 47, 48, 49, 50, 51, 52, 53, 54, 55, 56, 57, 58, 59, 60, 61, 62, 63, 64, 65, 66, 67, 68, 69, 70] (by decide +kernel) (by decide +kernel)
set_option maxRecDepth 20000 in
theorem gX9_mark_X9_isSign : GoodIn wsX9_mark (wsV RX9 172 RX9 yX9_isSign wsX9_isSign) := goodIn_app (goodIn_of _ (by decide +kernel)) ggX9_mark_X9_isSign
set_option maxRecDepth 20000 in
theorem ggX9_mark_X9_in : GoodIn wsX9_mark wsX9_in := goodIn_r _ [11] (by decide +kernel) (by decide +kernel)
set_option maxRecDepth 20000 in
theorem gX9_mark_X9_in : GoodIn wsX9_mark (va_wsS RX9 87 yX9_in wsX9_in) := goodIn_app (goodIn_of _ (by decide +kernel)) ggX9_mark_X9_in
set_option maxRecDepth 20000 in
theorem ggX9_mark_X9_goes : GoodIn wsX9_mark wsX9_goes := goodIn_r _ [15, 16, 42, 43, 44, 45, 46, 47, 48, 49, 50, 51, 52, 53, 54, 55, 56, 57, 58, 59, 60, 61, 62, 63, 64, 65, 66, 67, 68, 69, 70] (by decide +kernel) (by decide +kernel)
set_option maxRecDepth 20000 in
theorem gX9_mark_X9_goes : GoodIn wsX9_mark (wsV RX9 97 RX9 yX9_goes wsX9_goes) := goodIn_app (goodIn_of _ (by decide +kernel)) ggX9_mark_X9_goes
set_option maxRecDepth 20000 in
theorem ggX9_mark_X9_markOf : GoodIn wsX9_mark wsX9_markOf := goodIn_r _ [20, 21, 22, 23, 24, 25, 26, 6, 27, 28, 29, 30, 31, 32, 33, 34, 35, 36, 37, 38, 39, 40, 41, 42, 43, 44, 45, 46, 47, 48, 49, 50, 51, 52, 53, 54, 55, 56, 57, 58, 59, 60, 61, 62, 63, 64, 65, 66, 67, 68, 69, 70] (by decide +kernel) (by decide +kernel)
set_option maxRecDepth 20000 in
theorem gX9_mark_X9_markOf : GoodIn wsX9_mark (wsV RX9 152 RX9 yX9_markOf wsX9_markOf) := goodIn_app (goodIn_of _ (by decide +kernel)) ggX9_mark_X9_markOf
theorem dX9_mark_0 : decode cX9_mark 0 = .ok (.aload_n 0, 1) := by decide +kernel
theorem dX9_mark_1 : decode cX9_mark 1 = .ok (.aload_n 0, 1) := by decide +kernel
theorem dX9_mark_2 : decode cX9_mark 2 = .ok (.iload_n 1, 1) := by decide +kernel
theorem dX9_mark_3 : decode cX9_mark 3 = .ok (.invokevirtual 172, 3) := by decide +kernel
theorem dX9_mark_6 : decode cX9_mark 6 = .ok (.ifCond .eq 16, 3) := by decide +kernel
theorem dX9_mark_9 : decode cX9_mark 9 = .ok (.iload_n 2, 1) := by decide +kernel
theorem dX9_mark_10 : decode cX9_mark 10 = .ok (.iconst 0, 1) := by decide +kernel
theorem dX9_mark_11 : decode cX9_mark 11 = .ok (.iconst 3, 1) := by decide +kernel
theorem dX9_mark_12 : decode cX9_mark 12 = .ok (.invokestatic 87, 3) := by decide +kernel
theorem dX9_mark_15 : decode cX9_mark 15 = .ok (.ifCond .eq 7, 3) := by decide +kernel
theorem dX9_mark_18 : decode cX9_mark 18 = .ok (.iconst 1, 1) := by decide +kernel
theorem dX9_mark_19 : decode cX9_mark 19 = .ok (.goto 4, 3) := by decide +kernel
theorem dX9_mark_22 : decode cX9_mark 22 = .ok (.iconst 0, 1) := by decide +kernel
theorem dX9_mark_23 : decode cX9_mark 23 = .ok (.iconst 1, 1) := by decide +kernel
theorem dX9_mark_24 : decode cX9_mark 24 = .ok (.iconst 1, 1) := by decide +kernel
theorem dX9_mark_25 : decode cX9_mark 25 = .ok (.invokevirtual 97, 3) := by decide +kernel
theorem dX9_mark_28 : decode cX9_mark 28 = .ok (.ifCond .ne 5, 3) := by decide +kernel
theorem dX9_mark_31 : decode cX9_mark 31 = .ok (.fconst 0, 1) := by decide +kernel
theorem dX9_mark_32 : decode cX9_mark 32 = .ok (.freturn, 1) := by decide +kernel
theorem dX9_mark_33 : decode cX9_mark 33 = .ok (.aload_n 0, 1) := by decide +kernel
theorem dX9_mark_34 : decode cX9_mark 34 = .ok (.aload_n 0, 1) := by decide +kernel
theorem dX9_mark_35 : decode cX9_mark 35 = .ok (.getfield 7, 3) := by decide +kernel
theorem dX9_mark_38 : decode cX9_mark 38 = .ok (.iconst 0, 1) := by decide +kernel
theorem dX9_mark_39 : decode cX9_mark 39 = .ok (.aload_n 0, 1) := by decide +kernel
theorem dX9_mark_40 : decode cX9_mark 40 = .ok (.getfield 94, 3) := by decide +kernel
theorem dX9_mark_43 : decode cX9_mark 43 = .ok (.iload_n 1, 1) := by decide +kernel
theorem dX9_mark_44 : decode cX9_mark 44 = .ok (.iload_n 2, 1) := by decide +kernel
theorem dX9_mark_45 : decode cX9_mark 45 = .ok (.iconst 0, 1) := by decide +kernel
theorem dX9_mark_46 : decode cX9_mark 46 = .ok (.invokevirtual 152, 3) := by decide +kernel
theorem dX9_mark_49 : decode cX9_mark 49 = .ok (.freturn, 1) := by decide +kernel
set_option maxRecDepth 20000 in
theorem ggX9_part_X9_isSign : GoodIn wsX9_part wsX9_isSign := goodIn_r _ [9, 10, 11, 12, 8, 13, 36, 37, 38, 39, 40, 41, 42, 43, 44, 45, 46, 47, 48, 49, 50, 51, 52, 53, 54, 55, 56, 57, 58, 59, 60, 61, 62, 63, 64] (by decide +kernel) (by decide +kernel)
set_option maxRecDepth 20000 in
theorem gX9_part_X9_isSign : GoodIn wsX9_part (wsV RX9 172 RX9 yX9_isSign wsX9_isSign) := goodIn_app (goodIn_of _ (by decide +kernel)) ggX9_part_X9_isSign
set_option maxRecDepth 20000 in
theorem ggX9_part_X9_in : GoodIn wsX9_part wsX9_in := goodIn_r _ [13] (by decide +kernel) (by decide +kernel)
set_option maxRecDepth 20000 in
theorem gX9_part_X9_in : GoodIn wsX9_part (va_wsS RX9 87 yX9_in wsX9_in) := goodIn_app (goodIn_of _ (by decide +kernel)) ggX9_part_X9_in
set_option maxRecDepth 20000 in
theorem ggX9_part_X9_goes : GoodIn wsX9_part wsX9_goes := goodIn_r _ [17, 18, 36, 37, 38, 39, 40, 41, 42, 43, 44, 45, 46, 47, 48, 49, 50, 51, 52, 53, 54, 55, 56, 57, 58, 59, 60, 61, 62, 63, 64] (by decide +kernel) (by decide +kernel)
set_option maxRecDepth 20000 in
theorem gX9_part_X9_goes : GoodIn wsX9_part (wsV RX9 97 RX9 yX9_goes wsX9_goes) := goodIn_app (goodIn_of _ (by decide +kernel)) ggX9_part_X9_goes
set_option maxRecDepth 20000 in
theorem ggX9_part_X9_nearness : GoodIn wsX9_part wsX9_nearness := goodIn_r _ [21, 22, 23, 24, 25, 8, 26, 27, 28, 29] (by decide +kernel) (by decide +kernel)
set_option maxRecDepth 20000 in
theorem gX9_part_X9_nearness : GoodIn wsX9_part (va_wsS RX9 135 yX9_nearness wsX9_nearness) := goodIn_app (goodIn_of _ (by decide +kernel)) ggX9_part_X9_nearness
set_option maxRecDepth 20000 in
theorem ggX9_part_X9_slope : GoodIn wsX9_part wsX9_slope := goodIn_r _ [32, 22, 24, 25, 8, 26, 27, 28, 29] (by decide +kernel) (by decide +kernel)
set_option maxRecDepth 20000 in
theorem gX9_part_X9_slope : GoodIn wsX9_part (va_wsS RX9 139 yX9_slope wsX9_slope) := goodIn_app (goodIn_of _ (by decide +kernel)) ggX9_part_X9_slope
set_option maxRecDepth 20000 in
theorem ggX9_part_X9_order : GoodIn wsX9_part wsX9_order := goodIn_r _ [35, 22] (by decide +kernel) (by decide +kernel)
set_option maxRecDepth 20000 in
theorem gX9_part_X9_order : GoodIn wsX9_part (va_wsS RX9 143 yX9_order wsX9_order) := goodIn_app (goodIn_of _ (by decide +kernel)) ggX9_part_X9_order
theorem dX9_part_0 : decode cX9_part 0 = .ok (.aload_n 0, 1) := by decide +kernel
theorem dX9_part_1 : decode cX9_part 1 = .ok (.iload_n 1, 1) := by decide +kernel
theorem dX9_part_2 : decode cX9_part 2 = .ok (.invokevirtual 172, 3) := by decide +kernel
theorem dX9_part_5 : decode cX9_part 5 = .ok (.ifCond .eq 43, 3) := by decide +kernel
theorem dX9_part_8 : decode cX9_part 8 = .ok (.iload_n 2, 1) := by decide +kernel
theorem dX9_part_9 : decode cX9_part 9 = .ok (.iconst 0, 1) := by decide +kernel
theorem dX9_part_10 : decode cX9_part 10 = .ok (.aload_n 0, 1) := by decide +kernel
theorem dX9_part_11 : decode cX9_part 11 = .ok (.getfield 94, 3) := by decide +kernel
theorem dX9_part_14 : decode cX9_part 14 = .ok (.iconst 1, 1) := by decide +kernel
theorem dX9_part_15 : decode cX9_part 15 = .ok (.isub, 1) := by decide +kernel
theorem dX9_part_16 : decode cX9_part 16 = .ok (.invokestatic 87, 3) := by decide +kernel
theorem dX9_part_19 : decode cX9_part 19 = .ok (.ifCond .eq 29, 3) := by decide +kernel
theorem dX9_part_22 : decode cX9_part 22 = .ok (.iload_n 2, 1) := by decide +kernel
theorem dX9_part_23 : decode cX9_part 23 = .ok (.aload_n 0, 1) := by decide +kernel
theorem dX9_part_24 : decode cX9_part 24 = .ok (.getfield 13, 3) := by decide +kernel
theorem dX9_part_27 : decode cX9_part 27 = .ok (.aload_n 0, 1) := by decide +kernel
theorem dX9_part_28 : decode cX9_part 28 = .ok (.iload_n 1, 1) := by decide +kernel
theorem dX9_part_29 : decode cX9_part 29 = .ok (.invokevirtual 172, 3) := by decide +kernel
theorem dX9_part_32 : decode cX9_part 32 = .ok (.ifCond .eq 7, 3) := by decide +kernel
theorem dX9_part_35 : decode cX9_part 35 = .ok (.iload_n 1, 1) := by decide +kernel
theorem dX9_part_36 : decode cX9_part 36 = .ok (.goto 4, 3) := by decide +kernel
theorem dX9_part_39 : decode cX9_part 39 = .ok (.iconst 0, 1) := by decide +kernel
theorem dX9_part_40 : decode cX9_part 40 = .ok (.iaload, 1) := by decide +kernel
theorem dX9_part_41 : decode cX9_part 41 = .ok (.if_icmp .ge 7, 3) := by decide +kernel
theorem dX9_part_44 : decode cX9_part 44 = .ok (.iconst 1, 1) := by decide +kernel
theorem dX9_part_45 : decode cX9_part 45 = .ok (.goto 4, 3) := by decide +kernel
theorem dX9_part_48 : decode cX9_part 48 = .ok (.iconst 0, 1) := by decide +kernel
theorem dX9_part_49 : decode cX9_part 49 = .ok (.istore 4, 2) := by decide +kernel
theorem dX9_part_51 : decode cX9_part 51 = .ok (.aload_n 0, 1) := by decide +kernel
theorem dX9_part_52 : decode cX9_part 52 = .ok (.iload 4, 2) := by decide +kernel
theorem dX9_part_54 : decode cX9_part 54 = .ok (.iload_n 3, 1) := by decide +kernel
theorem dX9_part_55 : decode cX9_part 55 = .ok (.iconst 0, 1) := by decide +kernel
theorem dX9_part_56 : decode cX9_part 56 = .ok (.iconst 2, 1) := by decide +kernel
theorem dX9_part_57 : decode cX9_part 57 = .ok (.invokestatic 87, 3) := by decide +kernel
theorem dX9_part_60 : decode cX9_part 60 = .ok (.iconst 1, 1) := by decide +kernel
theorem dX9_part_61 : decode cX9_part 61 = .ok (.invokevirtual 97, 3) := by decide +kernel
theorem dX9_part_64 : decode cX9_part 64 = .ok (.ifCond .ne 5, 3) := by decide +kernel
theorem dX9_part_67 : decode cX9_part 67 = .ok (.fconst 0, 1) := by decide +kernel
theorem dX9_part_68 : decode cX9_part 68 = .ok (.freturn, 1) := by decide +kernel
theorem dX9_part_69 : decode cX9_part 69 = .ok (.bipush 24, 2) := by decide +kernel
theorem dX9_part_71 : decode cX9_part 71 = .ok (.iload_n 1, 1) := by decide +kernel
theorem dX9_part_72 : decode cX9_part 72 = .ok (.imul, 1) := by decide +kernel
theorem dX9_part_73 : decode cX9_part 73 = .ok (.iconst 4, 1) := by decide +kernel
theorem dX9_part_74 : decode cX9_part 74 = .ok (.iload_n 2, 1) := by decide +kernel
theorem dX9_part_75 : decode cX9_part 75 = .ok (.imul, 1) := by decide +kernel
theorem dX9_part_76 : decode cX9_part 76 = .ok (.iadd, 1) := by decide +kernel
theorem dX9_part_77 : decode cX9_part 77 = .ok (.istore 5, 2) := by decide +kernel
theorem dX9_part_79 : decode cX9_part 79 = .ok (.iload_n 3, 1) := by decide +kernel
theorem dX9_part_80 : decode cX9_part 80 = .ok (.ifCond .ne 23, 3) := by decide +kernel
theorem dX9_part_83 : decode cX9_part 83 = .ok (.aload_n 0, 1) := by decide +kernel
theorem dX9_part_84 : decode cX9_part 84 = .ok (.getfield 7, 3) := by decide +kernel
theorem dX9_part_87 : decode cX9_part 87 = .ok (.iconst 4, 1) := by decide +kernel
theorem dX9_part_88 : decode cX9_part 88 = .ok (.iload_n 2, 1) := by decide +kernel
theorem dX9_part_89 : decode cX9_part 89 = .ok (.imul, 1) := by decide +kernel
theorem dX9_part_90 : decode cX9_part 90 = .ok (.aload_n 0, 1) := by decide +kernel
theorem dX9_part_91 : decode cX9_part 91 = .ok (.getfield 16, 3) := by decide +kernel
theorem dX9_part_94 : decode cX9_part 94 = .ok (.iload 5, 2) := by decide +kernel
theorem dX9_part_96 : decode cX9_part 96 = .ok (.iconst 0, 1) := by decide +kernel
theorem dX9_part_97 : decode cX9_part 97 = .ok (.invokestatic 135, 3) := by decide +kernel
theorem dX9_part_100 : decode cX9_part 100 = .ok (.goto 40, 3) := by decide +kernel
theorem dX9_part_103 : decode cX9_part 103 = .ok (.iload_n 3, 1) := by decide +kernel
theorem dX9_part_104 : decode cX9_part 104 = .ok (.iconst 1, 1) := by decide +kernel
theorem dX9_part_105 : decode cX9_part 105 = .ok (.if_icmp .ne 22, 3) := by decide +kernel
theorem dX9_part_108 : decode cX9_part 108 = .ok (.aload_n 0, 1) := by decide +kernel
theorem dX9_part_109 : decode cX9_part 109 = .ok (.getfield 7, 3) := by decide +kernel
theorem dX9_part_112 : decode cX9_part 112 = .ok (.iconst 4, 1) := by decide +kernel
theorem dX9_part_113 : decode cX9_part 113 = .ok (.iload_n 2, 1) := by decide +kernel
theorem dX9_part_114 : decode cX9_part 114 = .ok (.imul, 1) := by decide +kernel
theorem dX9_part_115 : decode cX9_part 115 = .ok (.aload_n 0, 1) := by decide +kernel
theorem dX9_part_116 : decode cX9_part 116 = .ok (.getfield 16, 3) := by decide +kernel
theorem dX9_part_119 : decode cX9_part 119 = .ok (.iload 5, 2) := by decide +kernel
theorem dX9_part_121 : decode cX9_part 121 = .ok (.invokestatic 139, 3) := by decide +kernel
theorem dX9_part_124 : decode cX9_part 124 = .ok (.goto 16, 3) := by decide +kernel
theorem dX9_part_127 : decode cX9_part 127 = .ok (.aload_n 0, 1) := by decide +kernel
theorem dX9_part_128 : decode cX9_part 128 = .ok (.getfield 94, 3) := by decide +kernel
theorem dX9_part_131 : decode cX9_part 131 = .ok (.aload_n 0, 1) := by decide +kernel
theorem dX9_part_132 : decode cX9_part 132 = .ok (.getfield 13, 3) := by decide +kernel
theorem dX9_part_135 : decode cX9_part 135 = .ok (.iload_n 1, 1) := by decide +kernel
theorem dX9_part_136 : decode cX9_part 136 = .ok (.iaload, 1) := by decide +kernel
theorem dX9_part_137 : decode cX9_part 137 = .ok (.invokestatic 143, 3) := by decide +kernel
theorem dX9_part_140 : decode cX9_part 140 = .ok (.freturn, 1) := by decide +kernel
set_option maxRecDepth 20000 in
theorem ggX9_marked_X9_isHanded : GoodIn wsX9_marked wsX9_isHanded := goodIn_r _ [5, 6, 7, 8, 9, 4, 10, 11, 12, 13, 14, 69, 70, 71, 72, 73, 74, 75, 76, 77, 78, 79, 80, 81, 82, 83, 84, 85, 86, 87, 88, 89, 90, 91, 92, 93, 94, 95, 96, 97] (by decide +kernel) (by decide +kernel)
set_option maxRecDepth 20000 in
theorem gX9_marked_X9_isHanded : GoodIn wsX9_marked (wsV RX9 117 RX9 yX9_isHanded wsX9_isHanded) := goodIn_app (goodIn_of _ (by decide +kernel)) ggX9_marked_X9_isHanded
set_option maxRecDepth 20000 in
theorem ggX9_marked_X9_goes : GoodIn wsX9_marked wsX9_goes := goodIn_r _ [18, 19, 69, 70, 71, 72, 73, 74, 75, 76, 77, 78, 79, 80, 81, 82, 83, 84, 85, 86, 87, 88, 89, 90, 91, 92, 93, 94, 95, 96, 97] (by decide +kernel) (by decide +kernel)
set_option maxRecDepth 20000 in
theorem gX9_marked_X9_goes : GoodIn wsX9_marked (wsV RX9 97 RX9 yX9_goes wsX9_goes) := goodIn_app (goodIn_of _ (by decide +kernel)) ggX9_marked_X9_goes
set_option maxRecDepth 20000 in
theorem ggX9_marked_X9_writing : GoodIn wsX9_marked wsX9_writing := goodIn_r _ [22] (by decide +kernel) (by decide +kernel)
set_option maxRecDepth 20000 in
theorem gX9_marked_X9_writing : GoodIn wsX9_marked (va_wsS RX9 121 yX9_writing wsX9_writing) := goodIn_app (goodIn_of _ (by decide +kernel)) ggX9_marked_X9_writing
set_option maxRecDepth 20000 in
theorem ggX9_marked_X9_byAll : GoodIn wsX9_marked wsX9_byAll := goodIn_r _ [26, 27, 28, 29, 30, 31, 4, 32, 33, 34, 35, 36, 37, 38, 39, 40, 41, 42, 43, 44, 45, 46, 47, 48, 49, 50, 51, 52, 53, 54, 55, 56, 57, 58, 59, 60, 61, 62, 63, 64, 65, 66, 67, 68, 69, 70, 71, 72, 73, 74, 75, 76, 77, 78, 79, 80, 81, 82, 83, 84, 85, 86, 87, 88, 89, 90, 91, 92, 93, 94, 95, 96, 97] (by decide +kernel) (by decide +kernel)
set_option maxRecDepth 20000 in
theorem gX9_marked_X9_byAll : GoodIn wsX9_marked (wsV RX9 160 RX9 yX9_byAll wsX9_byAll) := goodIn_app (goodIn_of _ (by decide +kernel)) ggX9_marked_X9_byAll
theorem dX9_marked_0 : decode cX9_marked 0 = .ok (.aload_n 0, 1) := by decide +kernel
theorem dX9_marked_1 : decode cX9_marked 1 = .ok (.aload_n 0, 1) := by decide +kernel
theorem dX9_marked_2 : decode cX9_marked 2 = .ok (.iload_n 1, 1) := by decide +kernel
theorem dX9_marked_3 : decode cX9_marked 3 = .ok (.iload_n 2, 1) := by decide +kernel
theorem dX9_marked_4 : decode cX9_marked 4 = .ok (.iload_n 3, 1) := by decide +kernel
theorem dX9_marked_5 : decode cX9_marked 5 = .ok (.invokevirtual 117, 3) := by decide +kernel
theorem dX9_marked_8 : decode cX9_marked 8 = .ok (.iconst 1, 1) := by decide +kernel
theorem dX9_marked_9 : decode cX9_marked 9 = .ok (.iconst 1, 1) := by decide +kernel
theorem dX9_marked_10 : decode cX9_marked 10 = .ok (.invokevirtual 97, 3) := by decide +kernel
theorem dX9_marked_13 : decode cX9_marked 13 = .ok (.ifCond .eq 17, 3) := by decide +kernel
theorem dX9_marked_16 : decode cX9_marked 16 = .ok (.aload_n 0, 1) := by decide +kernel
theorem dX9_marked_17 : decode cX9_marked 17 = .ok (.iload_n 1, 1) := by decide +kernel
theorem dX9_marked_18 : decode cX9_marked 18 = .ok (.iload_n 1, 1) := by decide +kernel
theorem dX9_marked_19 : decode cX9_marked 19 = .ok (.iload_n 2, 1) := by decide +kernel
theorem dX9_marked_20 : decode cX9_marked 20 = .ok (.iload_n 3, 1) := by decide +kernel
theorem dX9_marked_21 : decode cX9_marked 21 = .ok (.invokestatic 121, 3) := by decide +kernel
theorem dX9_marked_24 : decode cX9_marked 24 = .ok (.invokevirtual 160, 3) := by decide +kernel
theorem dX9_marked_27 : decode cX9_marked 27 = .ok (.goto 4, 3) := by decide +kernel
theorem dX9_marked_30 : decode cX9_marked 30 = .ok (.fconst 0, 1) := by decide +kernel
theorem dX9_marked_31 : decode cX9_marked 31 = .ok (.freturn, 1) := by decide +kernel
set_option maxRecDepth 20000 in
theorem ggX9_of_X9_isDuel : GoodIn wsX9_of wsX9_isDuel := goodIn_r _ [8, 9, 10, 11, 7, 12, 82, 83, 84, 85, 86, 87, 88, 89, 90, 91, 92, 93, 94, 95, 96, 97, 98, 99, 100, 101, 102, 103, 104, 105, 106, 107, 108, 109, 110] (by decide +kernel) (by decide +kernel)
set_option maxRecDepth 20000 in
theorem gX9_of_X9_isDuel : GoodIn wsX9_of (wsV RX9 108 RX9 yX9_isDuel wsX9_isDuel) := goodIn_app (goodIn_of _ (by decide +kernel)) ggX9_of_X9_isDuel
set_option maxRecDepth 20000 in
theorem ggX9_of_X9_in : GoodIn wsX9_of wsX9_in := goodIn_r _ [12] (by decide +kernel) (by decide +kernel)
set_option maxRecDepth 20000 in
theorem gX9_of_X9_in : GoodIn wsX9_of (va_wsS RX9 87 yX9_in wsX9_in) := goodIn_app (goodIn_of _ (by decide +kernel)) ggX9_of_X9_in
set_option maxRecDepth 20000 in
theorem ggX9_of_X9_goes : GoodIn wsX9_of wsX9_goes := goodIn_r _ [16, 17, 82, 83, 84, 85, 86, 87, 88, 89, 90, 91, 92, 93, 94, 95, 96, 97, 98, 99, 100, 101, 102, 103, 104, 105, 106, 107, 108, 109, 110] (by decide +kernel) (by decide +kernel)
set_option maxRecDepth 20000 in
theorem gX9_of_X9_goes : GoodIn wsX9_of (wsV RX9 97 RX9 yX9_goes wsX9_goes) := goodIn_app (goodIn_of _ (by decide +kernel)) ggX9_of_X9_goes
set_option maxRecDepth 20000 in
theorem ggX9_of_X9_roundsTo : GoodIn wsX9_of wsX9_roundsTo := goodIn_r _ [21, 22, 23, 24, 25, 7, 26, 1, 27, 28, 29, 30, 31, 32, 3, 33, 34, 35, 36, 37, 2, 38, 39, 40, 41, 42, 43, 44, 45, 46, 47, 48, 49, 50, 51, 52, 53, 54, 55, 56, 57, 58, 59, 60, 61, 62, 63, 64, 65, 66, 67, 68, 69, 70, 71, 82, 83, 84, 85, 86, 87, 88, 89, 90, 91, 92, 93, 94, 95, 96, 97, 98, 99, 100, 101, 102, 103, 104, 105, 106, 107, 108, 109, 110] (by decide +kernel) (by decide +kernel)
set_option maxRecDepth 20000 in
theorem gX9_of_X9_roundsTo : GoodIn wsX9_of (wsV RX9 166 RX9 yX9_roundsTo wsX9_roundsTo) := goodIn_app (goodIn_of _ (by decide +kernel)) ggX9_of_X9_roundsTo
set_option maxRecDepth 20000 in
theorem ggX9_of_X9_winner : GoodIn wsX9_of wsX9_winner := goodIn_r _ [75, 76, 77, 78, 79, 80, 7, 81, 1, 22, 18, 19, 20, 21, 23, 24, 25, 26, 27, 28, 29, 30, 31, 32, 3, 33, 34, 35, 36, 37, 2, 38, 39, 40, 41, 42, 43, 44, 45, 46, 47, 48, 49, 50, 51, 52, 53, 54, 55, 56, 57, 58, 59, 60, 61, 62, 63, 64, 65, 66, 67, 68, 69, 70, 71, 82, 83, 84, 85, 86, 87, 88, 89, 90, 91, 92, 93, 94, 95, 96, 97, 98, 99, 100, 101, 102, 103, 104, 105, 106, 107, 108, 109, 110] (by decide +kernel) (by decide +kernel)
set_option maxRecDepth 20000 in
theorem gX9_of_X9_winner : GoodIn wsX9_of (wsV RX9 169 RX9 yX9_winner wsX9_winner) := goodIn_app (goodIn_of _ (by decide +kernel)) ggX9_of_X9_winner
theorem dX9_of_0 : decode cX9_of 0 = .ok (.aload_n 0, 1) := by decide +kernel
theorem dX9_of_1 : decode cX9_of 1 = .ok (.aload_n 0, 1) := by decide +kernel
theorem dX9_of_2 : decode cX9_of 2 = .ok (.iload_n 1, 1) := by decide +kernel
theorem dX9_of_3 : decode cX9_of 3 = .ok (.invokevirtual 108, 3) := by decide +kernel
theorem dX9_of_6 : decode cX9_of 6 = .ok (.iload_n 2, 1) := by decide +kernel
theorem dX9_of_7 : decode cX9_of 7 = .ok (.iconst 0, 1) := by decide +kernel
theorem dX9_of_8 : decode cX9_of 8 = .ok (.iconst 5, 1) := by decide +kernel
theorem dX9_of_9 : decode cX9_of 9 = .ok (.invokestatic 87, 3) := by decide +kernel
theorem dX9_of_12 : decode cX9_of 12 = .ok (.iconst 1, 1) := by decide +kernel
theorem dX9_of_13 : decode cX9_of 13 = .ok (.invokevirtual 97, 3) := by decide +kernel
theorem dX9_of_16 : decode cX9_of 16 = .ok (.ifCond .ne 5, 3) := by decide +kernel
theorem dX9_of_19 : decode cX9_of 19 = .ok (.iconst 0, 1) := by decide +kernel
theorem dX9_of_20 : decode cX9_of 20 = .ok (.ireturn, 1) := by decide +kernel
theorem dX9_of_21 : decode cX9_of 21 = .ok (.iload_n 2, 1) := by decide +kernel
theorem dX9_of_22 : decode cX9_of 22 = .ok (.tableswitch 61 0 4 #[34, 41, 41, 48, 54], 34) := by decide +kernel
theorem dX9_of_56 : decode cX9_of 56 = .ok (.aload_n 0, 1) := by decide +kernel
theorem dX9_of_57 : decode cX9_of 57 = .ok (.getfield 61, 3) := by decide +kernel
theorem dX9_of_60 : decode cX9_of 60 = .ok (.iload_n 1, 1) := by decide +kernel
theorem dX9_of_61 : decode cX9_of 61 = .ok (.iaload, 1) := by decide +kernel
theorem dX9_of_62 : decode cX9_of 62 = .ok (.ireturn, 1) := by decide +kernel
theorem dX9_of_63 : decode cX9_of 63 = .ok (.aload_n 0, 1) := by decide +kernel
theorem dX9_of_64 : decode cX9_of 64 = .ok (.iload_n 1, 1) := by decide +kernel
theorem dX9_of_65 : decode cX9_of 65 = .ok (.iload_n 2, 1) := by decide +kernel
theorem dX9_of_66 : decode cX9_of 66 = .ok (.invokevirtual 166, 3) := by decide +kernel
theorem dX9_of_69 : decode cX9_of 69 = .ok (.ireturn, 1) := by decide +kernel
theorem dX9_of_70 : decode cX9_of 70 = .ok (.aload_n 0, 1) := by decide +kernel
theorem dX9_of_71 : decode cX9_of 71 = .ok (.iload_n 1, 1) := by decide +kernel
theorem dX9_of_72 : decode cX9_of 72 = .ok (.invokevirtual 169, 3) := by decide +kernel
theorem dX9_of_75 : decode cX9_of 75 = .ok (.ireturn, 1) := by decide +kernel
theorem dX9_of_76 : decode cX9_of 76 = .ok (.aload_n 0, 1) := by decide +kernel
theorem dX9_of_77 : decode cX9_of 77 = .ok (.getfield 58, 3) := by decide +kernel
theorem dX9_of_80 : decode cX9_of 80 = .ok (.iload_n 1, 1) := by decide +kernel
theorem dX9_of_81 : decode cX9_of 81 = .ok (.iaload, 1) := by decide +kernel
theorem dX9_of_82 : decode cX9_of 82 = .ok (.ireturn, 1) := by decide +kernel
theorem dX9_of_83 : decode cX9_of 83 = .ok (.aload_n 0, 1) := by decide +kernel
theorem dX9_of_84 : decode cX9_of 84 = .ok (.getfield 43, 3) := by decide +kernel
theorem dX9_of_87 : decode cX9_of 87 = .ok (.iload_n 1, 1) := by decide +kernel
theorem dX9_of_88 : decode cX9_of 88 = .ok (.iaload, 1) := by decide +kernel
theorem dX9_of_89 : decode cX9_of 89 = .ok (.ireturn, 1) := by decide +kernel
set_option maxRecDepth 20000 in
theorem ggX9_paper_X9_isPaper : GoodIn wsX9_paper wsX9_isPaper := goodIn_r _ [6, 7, 8, 5, 9] (by decide +kernel) (by decide +kernel)
set_option maxRecDepth 20000 in
theorem gX9_paper_X9_isPaper : GoodIn wsX9_paper (va_wsS RX9 101 yX9_isPaper wsX9_isPaper) := goodIn_app (goodIn_of _ (by decide +kernel)) ggX9_paper_X9_isPaper
set_option maxRecDepth 20000 in
theorem ggX9_paper_X9_in : GoodIn wsX9_paper wsX9_in := goodIn_r _ [9] (by decide +kernel) (by decide +kernel)
set_option maxRecDepth 20000 in
theorem gX9_paper_X9_in : GoodIn wsX9_paper (va_wsS RX9 87 yX9_in wsX9_in) := goodIn_app (goodIn_of _ (by decide +kernel)) ggX9_paper_X9_in
set_option maxRecDepth 20000 in
theorem ggX9_paper_X9_goes : GoodIn wsX9_paper wsX9_goes := goodIn_r _ [13, 14, 15, 16, 17, 18, 19, 20, 21, 22, 23, 24, 25, 26, 27, 28, 29, 30, 31, 32, 33, 34, 35, 36, 37, 38, 39, 40, 41, 42, 43] (by decide +kernel) (by decide +kernel)
set_option maxRecDepth 20000 in
theorem gX9_paper_X9_goes : GoodIn wsX9_paper (wsV RX9 97 RX9 yX9_goes wsX9_goes) := goodIn_app (goodIn_of _ (by decide +kernel)) ggX9_paper_X9_goes
theorem dX9_paper_0 : decode cX9_paper 0 = .ok (.aload_n 0, 1) := by decide +kernel
theorem dX9_paper_1 : decode cX9_paper 1 = .ok (.iload_n 1, 1) := by decide +kernel
theorem dX9_paper_2 : decode cX9_paper 2 = .ok (.invokestatic 101, 3) := by decide +kernel
theorem dX9_paper_5 : decode cX9_paper 5 = .ok (.iload_n 2, 1) := by decide +kernel
theorem dX9_paper_6 : decode cX9_paper 6 = .ok (.iconst 0, 1) := by decide +kernel
theorem dX9_paper_7 : decode cX9_paper 7 = .ok (.iconst 1, 1) := by decide +kernel
theorem dX9_paper_8 : decode cX9_paper 8 = .ok (.invokestatic 87, 3) := by decide +kernel
theorem dX9_paper_11 : decode cX9_paper 11 = .ok (.iconst 1, 1) := by decide +kernel
theorem dX9_paper_12 : decode cX9_paper 12 = .ok (.invokevirtual 97, 3) := by decide +kernel
theorem dX9_paper_15 : decode cX9_paper 15 = .ok (.ifCond .ne 5, 3) := by decide +kernel
theorem dX9_paper_18 : decode cX9_paper 18 = .ok (.iconst 0, 1) := by decide +kernel
theorem dX9_paper_19 : decode cX9_paper 19 = .ok (.ireturn, 1) := by decide +kernel
theorem dX9_paper_20 : decode cX9_paper 20 = .ok (.iload_n 2, 1) := by decide +kernel
theorem dX9_paper_21 : decode cX9_paper 21 = .ok (.ifCond .ne 12, 3) := by decide +kernel
theorem dX9_paper_24 : decode cX9_paper 24 = .ok (.aload_n 0, 1) := by decide +kernel
theorem dX9_paper_25 : decode cX9_paper 25 = .ok (.getfield 19, 3) := by decide +kernel
theorem dX9_paper_28 : decode cX9_paper 28 = .ok (.iload_n 1, 1) := by decide +kernel
theorem dX9_paper_29 : decode cX9_paper 29 = .ok (.iaload, 1) := by decide +kernel
theorem dX9_paper_30 : decode cX9_paper 30 = .ok (.goto 9, 3) := by decide +kernel
theorem dX9_paper_33 : decode cX9_paper 33 = .ok (.aload_n 0, 1) := by decide +kernel
theorem dX9_paper_34 : decode cX9_paper 34 = .ok (.getfield 22, 3) := by decide +kernel
theorem dX9_paper_37 : decode cX9_paper 37 = .ok (.iload_n 1, 1) := by decide +kernel
theorem dX9_paper_38 : decode cX9_paper 38 = .ok (.iaload, 1) := by decide +kernel
theorem dX9_paper_39 : decode cX9_paper 39 = .ok (.ireturn, 1) := by decide +kernel
set_option maxRecDepth 20000 in
theorem ggX9_won_X9_in : GoodIn wsX9_won wsX9_in := goodIn_r _ [5] (by decide +kernel) (by decide +kernel)
set_option maxRecDepth 20000 in
theorem gX9_won_X9_in : GoodIn wsX9_won (va_wsS RX9 87 yX9_in wsX9_in) := goodIn_app (goodIn_of _ (by decide +kernel)) ggX9_won_X9_in
set_option maxRecDepth 20000 in
theorem ggX9_won_X9_goes : GoodIn wsX9_won wsX9_goes := goodIn_r _ [9, 10, 78, 79, 80, 81, 82, 83, 84, 85, 86, 87, 88, 89, 90, 91, 92, 93, 94, 95, 96, 97, 98, 99, 100, 101, 102, 103, 104, 105, 106] (by decide +kernel) (by decide +kernel)
set_option maxRecDepth 20000 in
theorem gX9_won_X9_goes : GoodIn wsX9_won (wsV RX9 97 RX9 yX9_goes wsX9_goes) := goodIn_app (goodIn_of _ (by decide +kernel)) ggX9_won_X9_goes
set_option maxRecDepth 20000 in
theorem ggX9_won_X9_winner : GoodIn wsX9_won wsX9_winner := goodIn_r _ [14, 15, 16, 17, 18, 19, 4, 20, 21, 22, 23, 24, 25, 26, 27, 28, 29, 30, 31, 32, 33, 34, 35, 36, 37, 38, 39, 40, 41, 42, 43, 44, 45, 46, 47, 48, 49, 50, 51, 52, 53, 54, 55, 56, 57, 58, 59, 60, 61, 62, 63, 64, 65, 66, 67, 68, 69, 70, 71, 72, 73, 74, 75, 76, 77, 78, 79, 80, 81, 82, 83, 84, 85, 86, 87, 88, 89, 90, 91, 92, 93, 94, 95, 96, 97, 98, 99, 100, 101, 102, 103, 104, 105, 106] (by decide +kernel) (by decide +kernel)
set_option maxRecDepth 20000 in
theorem gX9_won_X9_winner : GoodIn wsX9_won (wsV RX9 169 RX9 yX9_winner wsX9_winner) := goodIn_app (goodIn_of _ (by decide +kernel)) ggX9_won_X9_winner
theorem dX9_won_0 : decode cX9_won 0 = .ok (.aload_n 0, 1) := by decide +kernel
theorem dX9_won_1 : decode cX9_won 1 = .ok (.iload_n 1, 1) := by decide +kernel
theorem dX9_won_2 : decode cX9_won 2 = .ok (.iconst 0, 1) := by decide +kernel
theorem dX9_won_3 : decode cX9_won 3 = .ok (.bipush 7, 2) := by decide +kernel
theorem dX9_won_5 : decode cX9_won 5 = .ok (.invokestatic 87, 3) := by decide +kernel
theorem dX9_won_8 : decode cX9_won 8 = .ok (.iconst 1, 1) := by decide +kernel
theorem dX9_won_9 : decode cX9_won 9 = .ok (.iconst 1, 1) := by decide +kernel
theorem dX9_won_10 : decode cX9_won 10 = .ok (.invokevirtual 97, 3) := by decide +kernel
theorem dX9_won_13 : decode cX9_won 13 = .ok (.ifCond .ne 5, 3) := by decide +kernel
theorem dX9_won_16 : decode cX9_won 16 = .ok (.iconst 0, 1) := by decide +kernel
theorem dX9_won_17 : decode cX9_won 17 = .ok (.ireturn, 1) := by decide +kernel
theorem dX9_won_18 : decode cX9_won 18 = .ok (.iconst 0, 1) := by decide +kernel
theorem dX9_won_19 : decode cX9_won 19 = .ok (.istore_n 2, 1) := by decide +kernel
theorem dX9_won_20 : decode cX9_won 20 = .ok (.iconst 0, 1) := by decide +kernel
theorem dX9_won_21 : decode cX9_won 21 = .ok (.istore_n 3, 1) := by decide +kernel
theorem dX9_won_22 : decode cX9_won 22 = .ok (.iload_n 3, 1) := by decide +kernel
theorem dX9_won_23 : decode cX9_won 23 = .ok (.aload_n 0, 1) := by decide +kernel
theorem dX9_won_24 : decode cX9_won 24 = .ok (.getfield 84, 3) := by decide +kernel
theorem dX9_won_27 : decode cX9_won 27 = .ok (.if_icmp .ge 26, 3) := by decide +kernel
theorem dX9_won_30 : decode cX9_won 30 = .ok (.iload_n 2, 1) := by decide +kernel
theorem dX9_won_31 : decode cX9_won 31 = .ok (.aload_n 0, 1) := by decide +kernel
theorem dX9_won_32 : decode cX9_won 32 = .ok (.iload_n 3, 1) := by decide +kernel
theorem dX9_won_33 : decode cX9_won 33 = .ok (.invokevirtual 169, 3) := by decide +kernel
theorem dX9_won_36 : decode cX9_won 36 = .ok (.iload_n 1, 1) := by decide +kernel
theorem dX9_won_37 : decode cX9_won 37 = .ok (.if_icmp .ne 7, 3) := by decide +kernel
theorem dX9_won_40 : decode cX9_won 40 = .ok (.iconst 1, 1) := by decide +kernel
theorem dX9_won_41 : decode cX9_won 41 = .ok (.goto 4, 3) := by decide +kernel
theorem dX9_won_44 : decode cX9_won 44 = .ok (.iconst 0, 1) := by decide +kernel
theorem dX9_won_45 : decode cX9_won 45 = .ok (.iadd, 1) := by decide +kernel
theorem dX9_won_46 : decode cX9_won 46 = .ok (.istore_n 2, 1) := by decide +kernel
theorem dX9_won_47 : decode cX9_won 47 = .ok (.iinc 3 1, 3) := by decide +kernel
theorem dX9_won_50 : decode cX9_won 50 = .ok (.goto (-28), 3) := by decide +kernel
theorem dX9_won_53 : decode cX9_won 53 = .ok (.iload_n 2, 1) := by decide +kernel
theorem dX9_won_54 : decode cX9_won 54 = .ok (.ireturn, 1) := by decide +kernel
theorem dJ9_abs_0f7a4_0 : decode cJ9_abs_0f7a4 0 = .ok (.iload_n 0, 1) := by decide +kernel
theorem dJ9_abs_0f7a4_1 : decode cJ9_abs_0f7a4 1 = .ok (.ifCond .ge 8, 3) := by decide +kernel
theorem dJ9_abs_0f7a4_4 : decode cJ9_abs_0f7a4 4 = .ok (.iload_n 0, 1) := by decide +kernel
theorem dJ9_abs_0f7a4_5 : decode cJ9_abs_0f7a4 5 = .ok (.ineg, 1) := by decide +kernel
theorem dJ9_abs_0f7a4_6 : decode cJ9_abs_0f7a4 6 = .ok (.goto 4, 3) := by decide +kernel
theorem dJ9_abs_0f7a4_9 : decode cJ9_abs_0f7a4 9 = .ok (.iload_n 0, 1) := by decide +kernel
theorem dJ9_abs_0f7a4_10 : decode cJ9_abs_0f7a4 10 = .ok (.ireturn, 1) := by decide +kernel
theorem dJ9_max_7cf53_0 : decode cJ9_max_7cf53 0 = .ok (.iload_n 0, 1) := by decide +kernel
theorem dJ9_max_7cf53_1 : decode cJ9_max_7cf53 1 = .ok (.iload_n 1, 1) := by decide +kernel
theorem dJ9_max_7cf53_2 : decode cJ9_max_7cf53 2 = .ok (.if_icmp .lt 7, 3) := by decide +kernel
theorem dJ9_max_7cf53_5 : decode cJ9_max_7cf53 5 = .ok (.iload_n 0, 1) := by decide +kernel
theorem dJ9_max_7cf53_6 : decode cJ9_max_7cf53 6 = .ok (.goto 4, 3) := by decide +kernel
theorem dJ9_max_7cf53_9 : decode cJ9_max_7cf53 9 = .ok (.iload_n 1, 1) := by decide +kernel
theorem dJ9_max_7cf53_10 : decode cJ9_max_7cf53 10 = .ok (.ireturn, 1) := by decide +kernel
theorem dJ9_min_7cf53_0 : decode cJ9_min_7cf53 0 = .ok (.iload_n 0, 1) := by decide +kernel
theorem dJ9_min_7cf53_1 : decode cJ9_min_7cf53 1 = .ok (.iload_n 1, 1) := by decide +kernel
theorem dJ9_min_7cf53_2 : decode cJ9_min_7cf53 2 = .ok (.if_icmp .gt 7, 3) := by decide +kernel
theorem dJ9_min_7cf53_5 : decode cJ9_min_7cf53 5 = .ok (.iload_n 0, 1) := by decide +kernel
theorem dJ9_min_7cf53_6 : decode cJ9_min_7cf53 6 = .ok (.goto 4, 3) := by decide +kernel
theorem dJ9_min_7cf53_9 : decode cJ9_min_7cf53 9 = .ok (.iload_n 1, 1) := by decide +kernel
theorem dJ9_min_7cf53_10 : decode cJ9_min_7cf53 10 = .ok (.ireturn, 1) := by decide +kernel
set_option maxRecDepth 20000 in
theorem ggL_stroke_X8_stroke : GoodIn wsL_stroke wsX8_stroke := goodIn_ca (goodIn_ca (goodIn_r _ [7, 8, 9, 10, 11, 12, 13, 14, 15, 16, 17, 18, 6, 19, 20, 21, 22, 23, 24, 25, 26, 27, 28, 29, 30, 31, 32, 33, 34, 35, 36, 37, 38, 39, 40, 41, 42, 43, 44, 45, 46, 47, 48, 49, 50, 51, 52, 53, 54, 55] (by decide +kernel) (by decide +kernel)) (goodIn_sub (fun _ h => List.mem_cons_of_mem _ (List.mem_append_left _ (List.mem_append_right _ h))) (by decide +kernel))) (goodIn_sub (fun _ h => List.mem_cons_of_mem _ (List.mem_append_right _ h)) (by decide +kernel))
set_option maxRecDepth 20000 in
theorem gL_stroke_X8_stroke : GoodIn wsL_stroke (wsV RL 7 RX8 yX8_stroke wsX8_stroke) := goodIn_app (goodIn_of _ (by decide +kernel)) ggL_stroke_X8_stroke
theorem dL_stroke_0 : decode cL_stroke 0 = .ok (.aload 5, 2) := by decide +kernel
theorem dL_stroke_2 : decode cL_stroke 2 = .ok (.iconst 0, 1) := by decide +kernel
theorem dL_stroke_3 : decode cL_stroke 3 = .ok (.aload_n 0, 1) := by decide +kernel
theorem dL_stroke_4 : decode cL_stroke 4 = .ok (.iload_n 1, 1) := by decide +kernel
theorem dL_stroke_5 : decode cL_stroke 5 = .ok (.iload_n 2, 1) := by decide +kernel
theorem dL_stroke_6 : decode cL_stroke 6 = .ok (.iload_n 3, 1) := by decide +kernel
theorem dL_stroke_7 : decode cL_stroke 7 = .ok (.iload 4, 2) := by decide +kernel
theorem dL_stroke_9 : decode cL_stroke 9 = .ok (.invokevirtual 7, 3) := by decide +kernel
theorem dL_stroke_12 : decode cL_stroke 12 = .ok (.i2l, 1) := by decide +kernel
theorem dL_stroke_13 : decode cL_stroke 13 = .ok (.lastore, 1) := by decide +kernel
theorem dL_stroke_14 : decode cL_stroke 14 = .ok (.goto 11, 3) := by decide +kernel
theorem dL_stroke_17 : decode cL_stroke 17 = .ok (.astore 6, 2) := by decide +kernel
theorem dL_stroke_19 : decode cL_stroke 19 = .ok (.iconst 1, 1) := by decide +kernel
theorem dL_stroke_20 : decode cL_stroke 20 = .ok (.ireturn, 1) := by decide +kernel
theorem dL_stroke_21 : decode cL_stroke 21 = .ok (.astore 6, 2) := by decide +kernel
theorem dL_stroke_23 : decode cL_stroke 23 = .ok (.iconst 2, 1) := by decide +kernel
theorem dL_stroke_24 : decode cL_stroke 24 = .ok (.ireturn, 1) := by decide +kernel
theorem dL_stroke_25 : decode cL_stroke 25 = .ok (.iconst 0, 1) := by decide +kernel
theorem dL_stroke_26 : decode cL_stroke 26 = .ok (.ireturn, 1) := by decide +kernel
set_option maxRecDepth 20000 in
theorem ggL_sign_X8_sign : GoodIn wsL_sign wsX8_sign := goodIn_ca (goodIn_r _ [6, 7, 8, 9, 10, 11, 12, 13, 14, 15, 16, 17, 5, 18, 19, 20, 21, 22, 23, 24, 25, 26, 27, 28, 29, 30, 31, 32, 33, 34, 35, 36, 37] (by decide +kernel) (by decide +kernel)) (goodIn_sub (fun _ h => List.mem_cons_of_mem _ (List.mem_append_right _ h)) (by decide +kernel))
set_option maxRecDepth 20000 in
theorem gL_sign_X8_sign : GoodIn wsL_sign (wsV RL 17 RX8 yX8_sign wsX8_sign) := goodIn_app (goodIn_of _ (by decide +kernel)) ggL_sign_X8_sign
theorem dL_sign_0 : decode cL_sign 0 = .ok (.aload_n 1, 1) := by decide +kernel
theorem dL_sign_1 : decode cL_sign 1 = .ok (.iconst 0, 1) := by decide +kernel
theorem dL_sign_2 : decode cL_sign 2 = .ok (.aload_n 0, 1) := by decide +kernel
theorem dL_sign_3 : decode cL_sign 3 = .ok (.invokevirtual 17, 3) := by decide +kernel
theorem dL_sign_6 : decode cL_sign 6 = .ok (.i2l, 1) := by decide +kernel
theorem dL_sign_7 : decode cL_sign 7 = .ok (.lastore, 1) := by decide +kernel
theorem dL_sign_8 : decode cL_sign 8 = .ok (.goto 6, 3) := by decide +kernel
theorem dL_sign_11 : decode cL_sign 11 = .ok (.astore_n 2, 1) := by decide +kernel
theorem dL_sign_12 : decode cL_sign 12 = .ok (.iconst 1, 1) := by decide +kernel
theorem dL_sign_13 : decode cL_sign 13 = .ok (.ireturn, 1) := by decide +kernel
theorem dL_sign_14 : decode cL_sign 14 = .ok (.iconst 0, 1) := by decide +kernel
theorem dL_sign_15 : decode cL_sign 15 = .ok (.ireturn, 1) := by decide +kernel
set_option maxRecDepth 20000 in
theorem ggL_buy_X8_buy : GoodIn wsL_buy wsX8_buy := goodIn_ca (goodIn_ca (goodIn_ca (goodIn_r _ [8, 9, 10, 11, 12, 13, 14, 15, 16, 17, 18, 7, 19, 20, 21, 22, 23, 24, 25, 26, 27, 28, 29, 30, 31, 32, 33, 34, 35, 36] (by decide +kernel) (by decide +kernel)) (goodIn_sub (fun _ h => List.mem_cons_of_mem _ (List.mem_append_left _ (List.mem_append_left _ (List.mem_append_right _ h)))) (by decide +kernel))) (goodIn_sub (fun _ h => List.mem_cons_of_mem _ (List.mem_append_left _ (List.mem_append_right _ h))) (by decide +kernel))) (goodIn_sub (fun _ h => List.mem_cons_of_mem _ (List.mem_append_right _ h)) (by decide +kernel))
set_option maxRecDepth 20000 in
theorem gL_buy_X8_buy : GoodIn wsL_buy (wsV RL 21 RX8 yX8_buy wsX8_buy) := goodIn_app (goodIn_of _ (by decide +kernel)) ggL_buy_X8_buy
theorem dL_buy_0 : decode cL_buy 0 = .ok (.aload_n 3, 1) := by decide +kernel
theorem dL_buy_1 : decode cL_buy 1 = .ok (.iconst 0, 1) := by decide +kernel
theorem dL_buy_2 : decode cL_buy 2 = .ok (.aload_n 0, 1) := by decide +kernel
theorem dL_buy_3 : decode cL_buy 3 = .ok (.iload_n 1, 1) := by decide +kernel
theorem dL_buy_4 : decode cL_buy 4 = .ok (.iload_n 2, 1) := by decide +kernel
theorem dL_buy_5 : decode cL_buy 5 = .ok (.invokevirtual 21, 3) := by decide +kernel
theorem dL_buy_8 : decode cL_buy 8 = .ok (.i2l, 1) := by decide +kernel
theorem dL_buy_9 : decode cL_buy 9 = .ok (.lastore, 1) := by decide +kernel
theorem dL_buy_10 : decode cL_buy 10 = .ok (.goto 15, 3) := by decide +kernel
theorem dL_buy_13 : decode cL_buy 13 = .ok (.astore 4, 2) := by decide +kernel
theorem dL_buy_15 : decode cL_buy 15 = .ok (.iconst 1, 1) := by decide +kernel
theorem dL_buy_16 : decode cL_buy 16 = .ok (.ireturn, 1) := by decide +kernel
theorem dL_buy_17 : decode cL_buy 17 = .ok (.astore 4, 2) := by decide +kernel
theorem dL_buy_19 : decode cL_buy 19 = .ok (.iconst 2, 1) := by decide +kernel
theorem dL_buy_20 : decode cL_buy 20 = .ok (.ireturn, 1) := by decide +kernel
theorem dL_buy_21 : decode cL_buy 21 = .ok (.astore 4, 2) := by decide +kernel
theorem dL_buy_23 : decode cL_buy 23 = .ok (.iconst 3, 1) := by decide +kernel
theorem dL_buy_24 : decode cL_buy 24 = .ok (.ireturn, 1) := by decide +kernel
theorem dL_buy_25 : decode cL_buy 25 = .ok (.iconst 0, 1) := by decide +kernel
theorem dL_buy_26 : decode cL_buy 26 = .ok (.ireturn, 1) := by decide +kernel
set_option maxRecDepth 20000 in
theorem ggL_rise_X8_rise : GoodIn wsL_rise wsX8_rise := goodIn_ca (goodIn_ca (goodIn_r _ [7, 8, 9, 10, 11, 12, 13, 14, 15, 16, 6, 17, 18, 19, 20, 21, 22, 23, 24, 25, 26, 27, 28, 29, 30, 31, 32, 33, 34] (by decide +kernel) (by decide +kernel)) (goodIn_sub (fun _ h => List.mem_cons_of_mem _ (List.mem_append_left _ (List.mem_append_right _ h))) (by decide +kernel))) (goodIn_sub (fun _ h => List.mem_cons_of_mem _ (List.mem_append_right _ h)) (by decide +kernel))
set_option maxRecDepth 20000 in
theorem gL_rise_X8_rise : GoodIn wsL_rise (wsV RL 27 RX8 yX8_rise wsX8_rise) := goodIn_app (goodIn_of _ (by decide +kernel)) ggL_rise_X8_rise
theorem dL_rise_0 : decode cL_rise 0 = .ok (.aload_n 3, 1) := by decide +kernel
theorem dL_rise_1 : decode cL_rise 1 = .ok (.iconst 0, 1) := by decide +kernel
theorem dL_rise_2 : decode cL_rise 2 = .ok (.aload_n 0, 1) := by decide +kernel
theorem dL_rise_3 : decode cL_rise 3 = .ok (.iload_n 1, 1) := by decide +kernel
theorem dL_rise_4 : decode cL_rise 4 = .ok (.iload_n 2, 1) := by decide +kernel
theorem dL_rise_5 : decode cL_rise 5 = .ok (.invokevirtual 27, 3) := by decide +kernel
theorem dL_rise_8 : decode cL_rise 8 = .ok (.i2l, 1) := by decide +kernel
theorem dL_rise_9 : decode cL_rise 9 = .ok (.lastore, 1) := by decide +kernel
theorem dL_rise_10 : decode cL_rise 10 = .ok (.goto 11, 3) := by decide +kernel
theorem dL_rise_13 : decode cL_rise 13 = .ok (.astore 4, 2) := by decide +kernel
theorem dL_rise_15 : decode cL_rise 15 = .ok (.iconst 1, 1) := by decide +kernel
theorem dL_rise_16 : decode cL_rise 16 = .ok (.ireturn, 1) := by decide +kernel
theorem dL_rise_17 : decode cL_rise 17 = .ok (.astore 4, 2) := by decide +kernel
theorem dL_rise_19 : decode cL_rise 19 = .ok (.iconst 2, 1) := by decide +kernel
theorem dL_rise_20 : decode cL_rise 20 = .ok (.ireturn, 1) := by decide +kernel
theorem dL_rise_21 : decode cL_rise 21 = .ok (.iconst 0, 1) := by decide +kernel
theorem dL_rise_22 : decode cL_rise 22 = .ok (.ireturn, 1) := by decide +kernel
set_option maxRecDepth 20000 in
theorem ggL_style_X8_style : GoodIn wsL_style wsX8_style := goodIn_ca (goodIn_ca (goodIn_r _ [7, 8, 9, 10, 11, 12, 13, 14, 15, 16, 17, 6, 18, 19, 20, 21, 22, 23, 24, 25, 26, 27, 28, 29, 30, 31, 32, 33, 34, 35] (by decide +kernel) (by decide +kernel)) (goodIn_sub (fun _ h => List.mem_cons_of_mem _ (List.mem_append_left _ (List.mem_append_right _ h))) (by decide +kernel))) (goodIn_sub (fun _ h => List.mem_cons_of_mem _ (List.mem_append_right _ h)) (by decide +kernel))
set_option maxRecDepth 20000 in
theorem gL_style_X8_style : GoodIn wsL_style (wsV RL 30 RX8 yX8_style wsX8_style) := goodIn_app (goodIn_of _ (by decide +kernel)) ggL_style_X8_style
theorem dL_style_0 : decode cL_style 0 = .ok (.aload_n 0, 1) := by decide +kernel
theorem dL_style_1 : decode cL_style 1 = .ok (.iload_n 1, 1) := by decide +kernel
theorem dL_style_2 : decode cL_style 2 = .ok (.iload_n 2, 1) := by decide +kernel
theorem dL_style_3 : decode cL_style 3 = .ok (.iload_n 3, 1) := by decide +kernel
theorem dL_style_4 : decode cL_style 4 = .ok (.iload 4, 2) := by decide +kernel
theorem dL_style_6 : decode cL_style 6 = .ok (.invokevirtual 30, 3) := by decide +kernel
theorem dL_style_9 : decode cL_style 9 = .ok (.goto 11, 3) := by decide +kernel
theorem dL_style_12 : decode cL_style 12 = .ok (.astore 5, 2) := by decide +kernel
theorem dL_style_14 : decode cL_style 14 = .ok (.iconst 1, 1) := by decide +kernel
theorem dL_style_15 : decode cL_style 15 = .ok (.ireturn, 1) := by decide +kernel
theorem dL_style_16 : decode cL_style 16 = .ok (.astore 5, 2) := by decide +kernel
theorem dL_style_18 : decode cL_style 18 = .ok (.iconst 2, 1) := by decide +kernel
theorem dL_style_19 : decode cL_style 19 = .ok (.ireturn, 1) := by decide +kernel
theorem dL_style_20 : decode cL_style 20 = .ok (.iconst 0, 1) := by decide +kernel
theorem dL_style_21 : decode cL_style 21 = .ok (.ireturn, 1) := by decide +kernel
set_option maxRecDepth 20000 in
theorem ggL_learn_X8_learn : GoodIn wsL_learn wsX8_learn := goodIn_ca (goodIn_ca (goodIn_r _ [7, 8, 9, 10, 11, 12, 13, 14, 15, 6, 16, 17, 18, 19, 20, 21, 22, 23, 24, 25, 26, 27, 28, 29, 30, 31, 32, 33, 34, 35, 36, 37, 38, 39, 40, 41, 42, 43, 44, 45, 46, 47] (by decide +kernel) (by decide +kernel)) (goodIn_sub (fun _ h => List.mem_cons_of_mem _ (List.mem_append_left _ (List.mem_append_right _ h))) (by decide +kernel))) (goodIn_sub (fun _ h => List.mem_cons_of_mem _ (List.mem_append_right _ h)) (by decide +kernel))
set_option maxRecDepth 20000 in
theorem gL_learn_X8_learn : GoodIn wsL_learn (wsV RL 34 RX8 yX8_learn wsX8_learn) := goodIn_app (goodIn_of _ (by decide +kernel)) ggL_learn_X8_learn
theorem dL_learn_0 : decode cL_learn 0 = .ok (.aload_n 3, 1) := by decide +kernel
theorem dL_learn_1 : decode cL_learn 1 = .ok (.iconst 0, 1) := by decide +kernel
theorem dL_learn_2 : decode cL_learn 2 = .ok (.aload_n 0, 1) := by decide +kernel
theorem dL_learn_3 : decode cL_learn 3 = .ok (.iload_n 1, 1) := by decide +kernel
theorem dL_learn_4 : decode cL_learn 4 = .ok (.iload_n 2, 1) := by decide +kernel
theorem dL_learn_5 : decode cL_learn 5 = .ok (.invokevirtual 34, 3) := by decide +kernel
theorem dL_learn_8 : decode cL_learn 8 = .ok (.i2l, 1) := by decide +kernel
theorem dL_learn_9 : decode cL_learn 9 = .ok (.lastore, 1) := by decide +kernel
theorem dL_learn_10 : decode cL_learn 10 = .ok (.goto 11, 3) := by decide +kernel
theorem dL_learn_13 : decode cL_learn 13 = .ok (.astore 4, 2) := by decide +kernel
theorem dL_learn_15 : decode cL_learn 15 = .ok (.iconst 1, 1) := by decide +kernel
theorem dL_learn_16 : decode cL_learn 16 = .ok (.ireturn, 1) := by decide +kernel
theorem dL_learn_17 : decode cL_learn 17 = .ok (.astore 4, 2) := by decide +kernel
theorem dL_learn_19 : decode cL_learn 19 = .ok (.iconst 2, 1) := by decide +kernel
theorem dL_learn_20 : decode cL_learn 20 = .ok (.ireturn, 1) := by decide +kernel
theorem dL_learn_21 : decode cL_learn 21 = .ok (.iconst 0, 1) := by decide +kernel
theorem dL_learn_22 : decode cL_learn 22 = .ok (.ireturn, 1) := by decide +kernel
set_option maxRecDepth 20000 in
theorem ggL_pass_X8_pass : GoodIn wsL_pass wsX8_pass := goodIn_ca (goodIn_ca (goodIn_r _ [7, 8, 9, 10, 11, 12, 13, 14, 15, 6, 16, 17, 18, 19, 20, 21, 22, 23, 24, 25, 26, 27, 28, 29, 30, 31, 32, 33, 34, 35, 36, 37, 38, 39, 40, 41, 42, 43] (by decide +kernel) (by decide +kernel)) (goodIn_sub (fun _ h => List.mem_cons_of_mem _ (List.mem_append_left _ (List.mem_append_right _ h))) (by decide +kernel))) (goodIn_sub (fun _ h => List.mem_cons_of_mem _ (List.mem_append_right _ h)) (by decide +kernel))
set_option maxRecDepth 20000 in
theorem gL_pass_X8_pass : GoodIn wsL_pass (wsV RL 37 RX8 yX8_pass wsX8_pass) := goodIn_app (goodIn_of _ (by decide +kernel)) ggL_pass_X8_pass
theorem dL_pass_0 : decode cL_pass 0 = .ok (.aload_n 2, 1) := by decide +kernel
theorem dL_pass_1 : decode cL_pass 1 = .ok (.iconst 0, 1) := by decide +kernel
theorem dL_pass_2 : decode cL_pass 2 = .ok (.aload_n 0, 1) := by decide +kernel
theorem dL_pass_3 : decode cL_pass 3 = .ok (.iload_n 1, 1) := by decide +kernel
theorem dL_pass_4 : decode cL_pass 4 = .ok (.invokevirtual 37, 3) := by decide +kernel
theorem dL_pass_7 : decode cL_pass 7 = .ok (.i2l, 1) := by decide +kernel
theorem dL_pass_8 : decode cL_pass 8 = .ok (.lastore, 1) := by decide +kernel
theorem dL_pass_9 : decode cL_pass 9 = .ok (.goto 9, 3) := by decide +kernel
theorem dL_pass_12 : decode cL_pass 12 = .ok (.astore_n 3, 1) := by decide +kernel
theorem dL_pass_13 : decode cL_pass 13 = .ok (.iconst 1, 1) := by decide +kernel
theorem dL_pass_14 : decode cL_pass 14 = .ok (.ireturn, 1) := by decide +kernel
theorem dL_pass_15 : decode cL_pass 15 = .ok (.astore_n 3, 1) := by decide +kernel
theorem dL_pass_16 : decode cL_pass 16 = .ok (.iconst 2, 1) := by decide +kernel
theorem dL_pass_17 : decode cL_pass 17 = .ok (.ireturn, 1) := by decide +kernel
theorem dL_pass_18 : decode cL_pass 18 = .ok (.iconst 0, 1) := by decide +kernel
theorem dL_pass_19 : decode cL_pass 19 = .ok (.ireturn, 1) := by decide +kernel
set_option maxRecDepth 20000 in
theorem ggL_duel_X8_duel : GoodIn wsL_duel wsX8_duel := goodIn_ca (goodIn_ca (goodIn_ca (goodIn_r _ [8, 9, 10, 11, 12, 13, 14, 15, 16, 17, 18, 19, 20, 21, 22, 23, 7, 24, 25, 26, 27, 28, 29, 30, 31, 32, 33, 34, 35, 36, 37, 38, 39, 40, 41, 42, 43, 44, 45, 46, 47, 48, 49, 50, 51, 52, 53, 54, 55, 56, 57, 58, 59, 60, 61, 62, 63, 64, 65, 66, 67, 68, 69, 70, 71, 72, 73, 74, 75, 76, 77, 78] (by decide +kernel) (by decide +kernel)) (goodIn_sub (fun _ h => List.mem_cons_of_mem _ (List.mem_append_left _ (List.mem_append_left _ (List.mem_append_right _ h)))) (by decide +kernel))) (goodIn_sub (fun _ h => List.mem_cons_of_mem _ (List.mem_append_left _ (List.mem_append_right _ h))) (by decide +kernel))) (goodIn_sub (fun _ h => List.mem_cons_of_mem _ (List.mem_append_right _ h)) (by decide +kernel))
set_option maxRecDepth 20000 in
theorem gL_duel_X8_duel : GoodIn wsL_duel (wsV RL 41 RX8 yX8_duel wsX8_duel) := goodIn_app (goodIn_of _ (by decide +kernel)) ggL_duel_X8_duel
theorem dL_duel_0 : decode cL_duel 0 = .ok (.aload 7, 2) := by decide +kernel
theorem dL_duel_2 : decode cL_duel 2 = .ok (.iconst 0, 1) := by decide +kernel
theorem dL_duel_3 : decode cL_duel 3 = .ok (.aload_n 0, 1) := by decide +kernel
theorem dL_duel_4 : decode cL_duel 4 = .ok (.iload_n 1, 1) := by decide +kernel
theorem dL_duel_5 : decode cL_duel 5 = .ok (.iload_n 2, 1) := by decide +kernel
theorem dL_duel_6 : decode cL_duel 6 = .ok (.iload_n 3, 1) := by decide +kernel
theorem dL_duel_7 : decode cL_duel 7 = .ok (.iload 4, 2) := by decide +kernel
theorem dL_duel_9 : decode cL_duel 9 = .ok (.iload 5, 2) := by decide +kernel
theorem dL_duel_11 : decode cL_duel 11 = .ok (.iload 6, 2) := by decide +kernel
theorem dL_duel_13 : decode cL_duel 13 = .ok (.invokevirtual 41, 3) := by decide +kernel
theorem dL_duel_16 : decode cL_duel 16 = .ok (.i2l, 1) := by decide +kernel
theorem dL_duel_17 : decode cL_duel 17 = .ok (.lastore, 1) := by decide +kernel
theorem dL_duel_18 : decode cL_duel 18 = .ok (.goto 15, 3) := by decide +kernel
theorem dL_duel_21 : decode cL_duel 21 = .ok (.astore 8, 2) := by decide +kernel
theorem dL_duel_23 : decode cL_duel 23 = .ok (.iconst 1, 1) := by decide +kernel
theorem dL_duel_24 : decode cL_duel 24 = .ok (.ireturn, 1) := by decide +kernel
theorem dL_duel_25 : decode cL_duel 25 = .ok (.astore 8, 2) := by decide +kernel
theorem dL_duel_27 : decode cL_duel 27 = .ok (.iconst 2, 1) := by decide +kernel
theorem dL_duel_28 : decode cL_duel 28 = .ok (.ireturn, 1) := by decide +kernel
theorem dL_duel_29 : decode cL_duel 29 = .ok (.astore 8, 2) := by decide +kernel
theorem dL_duel_31 : decode cL_duel 31 = .ok (.iconst 3, 1) := by decide +kernel
theorem dL_duel_32 : decode cL_duel 32 = .ok (.ireturn, 1) := by decide +kernel
theorem dL_duel_33 : decode cL_duel 33 = .ok (.iconst 0, 1) := by decide +kernel
theorem dL_duel_34 : decode cL_duel 34 = .ok (.ireturn, 1) := by decide +kernel
set_option maxRecDepth 20000 in
theorem ggL_hand_X8_hand : GoodIn wsL_hand wsX8_hand := goodIn_ca (goodIn_ca (goodIn_ca (goodIn_r _ [8, 9, 10, 11, 12, 13, 14, 15, 16, 17, 18, 19, 20, 21, 22, 23, 24, 25, 26, 27, 7, 28, 29, 30, 31, 32, 33, 34, 35, 36, 37, 38, 39, 40, 41, 42, 43, 44, 45, 46, 47, 48, 49, 50, 51, 52, 53, 54, 55, 56, 57, 58, 59, 60, 61, 62, 63, 64, 65, 66, 67, 68, 69, 70, 71, 72, 73, 74, 75, 76, 77, 78, 79, 80, 81, 82, 83, 84, 85, 86, 87, 88, 89, 90, 91, 92, 93, 94, 95, 96, 97, 98, 99, 100, 101, 102, 103, 104, 105, 106, 107, 108, 109, 110, 111, 112, 113, 114, 115, 116, 117, 118, 119, 120, 121, 122, 123, 124, 125, 126, 127, 128, 129, 130, 131, 132, 133, 134, 135, 136, 137, 138, 139, 140, 141, 142, 143, 144, 145, 146, 147, 148, 149, 150, 151, 152, 153, 154, 155, 156, 157, 158, 159, 160, 161, 162, 163, 164] (by decide +kernel) (by decide +kernel)) (goodIn_sub (fun _ h => List.mem_cons_of_mem _ (List.mem_append_left _ (List.mem_append_left _ (List.mem_append_right _ h)))) (by decide +kernel))) (goodIn_sub (fun _ h => List.mem_cons_of_mem _ (List.mem_append_left _ (List.mem_append_right _ h))) (by decide +kernel))) (goodIn_sub (fun _ h => List.mem_cons_of_mem _ (List.mem_append_right _ h)) (by decide +kernel))
set_option maxRecDepth 20000 in
theorem gL_hand_X8_hand : GoodIn wsL_hand (wsV RL 45 RX8 yX8_hand wsX8_hand) := goodIn_app (goodIn_of _ (by decide +kernel)) ggL_hand_X8_hand
theorem dL_hand_0 : decode cL_hand 0 = .ok (.aload_n 3, 1) := by decide +kernel
theorem dL_hand_1 : decode cL_hand 1 = .ok (.iconst 0, 1) := by decide +kernel
theorem dL_hand_2 : decode cL_hand 2 = .ok (.aload_n 0, 1) := by decide +kernel
theorem dL_hand_3 : decode cL_hand 3 = .ok (.iload_n 1, 1) := by decide +kernel
theorem dL_hand_4 : decode cL_hand 4 = .ok (.iload_n 2, 1) := by decide +kernel
theorem dL_hand_5 : decode cL_hand 5 = .ok (.invokevirtual 45, 3) := by decide +kernel
theorem dL_hand_8 : decode cL_hand 8 = .ok (.i2l, 1) := by decide +kernel
theorem dL_hand_9 : decode cL_hand 9 = .ok (.lastore, 1) := by decide +kernel
theorem dL_hand_10 : decode cL_hand 10 = .ok (.goto 15, 3) := by decide +kernel
theorem dL_hand_13 : decode cL_hand 13 = .ok (.astore 4, 2) := by decide +kernel
theorem dL_hand_15 : decode cL_hand 15 = .ok (.iconst 1, 1) := by decide +kernel
theorem dL_hand_16 : decode cL_hand 16 = .ok (.ireturn, 1) := by decide +kernel
theorem dL_hand_17 : decode cL_hand 17 = .ok (.astore 4, 2) := by decide +kernel
theorem dL_hand_19 : decode cL_hand 19 = .ok (.iconst 2, 1) := by decide +kernel
theorem dL_hand_20 : decode cL_hand 20 = .ok (.ireturn, 1) := by decide +kernel
theorem dL_hand_21 : decode cL_hand 21 = .ok (.astore 4, 2) := by decide +kernel
theorem dL_hand_23 : decode cL_hand 23 = .ok (.iconst 3, 1) := by decide +kernel
theorem dL_hand_24 : decode cL_hand 24 = .ok (.ireturn, 1) := by decide +kernel
theorem dL_hand_25 : decode cL_hand 25 = .ok (.iconst 0, 1) := by decide +kernel
theorem dL_hand_26 : decode cL_hand 26 = .ok (.ireturn, 1) := by decide +kernel
set_option maxRecDepth 20000 in
theorem ggL_look_X8_look : GoodIn wsL_look wsX8_look := goodIn_ca (goodIn_r _ [6, 7, 8, 9, 10, 11, 12, 13, 5, 14, 15, 16, 17, 18, 19, 20, 21, 22, 23, 24, 25, 26, 27, 28, 29, 30, 31, 32, 33, 34, 35, 36, 37, 38, 39, 40, 41, 42, 43, 44, 45] (by decide +kernel) (by decide +kernel)) (goodIn_sub (fun _ h => List.mem_cons_of_mem _ (List.mem_append_right _ h)) (by decide +kernel))
set_option maxRecDepth 20000 in
theorem gL_look_X8_look : GoodIn wsL_look (wsV RL 48 RX8 yX8_look wsX8_look) := goodIn_app (goodIn_of _ (by decide +kernel)) ggL_look_X8_look
theorem dL_look_0 : decode cL_look 0 = .ok (.aload 4, 2) := by decide +kernel
theorem dL_look_2 : decode cL_look 2 = .ok (.iconst 0, 1) := by decide +kernel
theorem dL_look_3 : decode cL_look 3 = .ok (.aload_n 0, 1) := by decide +kernel
theorem dL_look_4 : decode cL_look 4 = .ok (.iload_n 1, 1) := by decide +kernel
theorem dL_look_5 : decode cL_look 5 = .ok (.iload_n 2, 1) := by decide +kernel
theorem dL_look_6 : decode cL_look 6 = .ok (.iload_n 3, 1) := by decide +kernel
theorem dL_look_7 : decode cL_look 7 = .ok (.invokevirtual 48, 3) := by decide +kernel
theorem dL_look_10 : decode cL_look 10 = .ok (.ifCond .eq 7, 3) := by decide +kernel
theorem dL_look_13 : decode cL_look 13 = .ok (.lconst 1, 1) := by decide +kernel
theorem dL_look_14 : decode cL_look 14 = .ok (.goto 4, 3) := by decide +kernel
theorem dL_look_17 : decode cL_look 17 = .ok (.lconst 0, 1) := by decide +kernel
theorem dL_look_18 : decode cL_look 18 = .ok (.lastore, 1) := by decide +kernel
theorem dL_look_19 : decode cL_look 19 = .ok (.goto 7, 3) := by decide +kernel
theorem dL_look_22 : decode cL_look 22 = .ok (.astore 5, 2) := by decide +kernel
theorem dL_look_24 : decode cL_look 24 = .ok (.iconst 1, 1) := by decide +kernel
theorem dL_look_25 : decode cL_look 25 = .ok (.ireturn, 1) := by decide +kernel
theorem dL_look_26 : decode cL_look 26 = .ok (.iconst 0, 1) := by decide +kernel
theorem dL_look_27 : decode cL_look 27 = .ok (.ireturn, 1) := by decide +kernel
set_option maxRecDepth 20000 in
theorem ggL_appeal_X8_appeal : GoodIn wsL_appeal wsX8_appeal := goodIn_ca (goodIn_ca (goodIn_r _ [7, 8, 9, 10, 11, 12, 13, 14, 15, 16, 6, 17, 18, 19, 20, 21, 22, 23, 24, 25, 26, 27, 28, 29, 30, 31, 32, 33, 34, 35, 36, 37, 38, 39, 40, 41, 42, 43, 44, 45, 46, 47, 48, 49, 50, 51, 52, 53, 54, 55, 56, 57, 58, 59, 60, 61, 62, 63, 64, 65, 66, 67, 68, 69, 70, 71, 72, 73, 74, 75, 76, 77, 78, 79, 80, 81, 82, 83, 84, 85, 86, 87, 88, 89, 90, 91, 92, 93, 94, 95, 96, 97, 98, 99, 100, 101, 102, 103, 104, 105, 106, 107, 108, 109, 110, 111, 112] (by decide +kernel) (by decide +kernel)) (goodIn_sub (fun _ h => List.mem_cons_of_mem _ (List.mem_append_left _ (List.mem_append_right _ h))) (by decide +kernel))) (goodIn_sub (fun _ h => List.mem_cons_of_mem _ (List.mem_append_right _ h)) (by decide +kernel))
set_option maxRecDepth 20000 in
theorem gL_appeal_X8_appeal : GoodIn wsL_appeal (wsV RL 52 RX8 yX8_appeal wsX8_appeal) := goodIn_app (goodIn_of _ (by decide +kernel)) ggL_appeal_X8_appeal
theorem dL_appeal_0 : decode cL_appeal 0 = .ok (.aload_n 3, 1) := by decide +kernel
theorem dL_appeal_1 : decode cL_appeal 1 = .ok (.iconst 0, 1) := by decide +kernel
theorem dL_appeal_2 : decode cL_appeal 2 = .ok (.aload_n 0, 1) := by decide +kernel
theorem dL_appeal_3 : decode cL_appeal 3 = .ok (.iload_n 1, 1) := by decide +kernel
theorem dL_appeal_4 : decode cL_appeal 4 = .ok (.iload_n 2, 1) := by decide +kernel
theorem dL_appeal_5 : decode cL_appeal 5 = .ok (.invokevirtual 52, 3) := by decide +kernel
theorem dL_appeal_8 : decode cL_appeal 8 = .ok (.i2l, 1) := by decide +kernel
theorem dL_appeal_9 : decode cL_appeal 9 = .ok (.lastore, 1) := by decide +kernel
theorem dL_appeal_10 : decode cL_appeal 10 = .ok (.goto 11, 3) := by decide +kernel
theorem dL_appeal_13 : decode cL_appeal 13 = .ok (.astore 4, 2) := by decide +kernel
theorem dL_appeal_15 : decode cL_appeal 15 = .ok (.iconst 1, 1) := by decide +kernel
theorem dL_appeal_16 : decode cL_appeal 16 = .ok (.ireturn, 1) := by decide +kernel
theorem dL_appeal_17 : decode cL_appeal 17 = .ok (.astore 4, 2) := by decide +kernel
theorem dL_appeal_19 : decode cL_appeal 19 = .ok (.iconst 2, 1) := by decide +kernel
theorem dL_appeal_20 : decode cL_appeal 20 = .ok (.ireturn, 1) := by decide +kernel
theorem dL_appeal_21 : decode cL_appeal 21 = .ok (.iconst 0, 1) := by decide +kernel
theorem dL_appeal_22 : decode cL_appeal 22 = .ok (.ireturn, 1) := by decide +kernel
set_option maxRecDepth 20000 in
theorem ggL_prompt_X8_prompt : GoodIn wsL_prompt wsX8_prompt := goodIn_ca (goodIn_r _ [6, 7, 8, 9, 10, 11, 5, 12, 13, 14, 15, 16, 17, 18, 19, 20, 21, 22, 23, 24, 25, 26, 27, 28, 29, 30, 31, 32, 33, 34, 35, 36, 37, 38, 39] (by decide +kernel) (by decide +kernel)) (goodIn_sub (fun _ h => List.mem_cons_of_mem _ (List.mem_append_right _ h)) (by decide +kernel))
set_option maxRecDepth 20000 in
theorem gL_prompt_X8_prompt : GoodIn wsL_prompt (wsV RL 55 RX8 yX8_prompt wsX8_prompt) := goodIn_app (goodIn_of _ (by decide +kernel)) ggL_prompt_X8_prompt
theorem dL_prompt_0 : decode cL_prompt 0 = .ok (.aload_n 3, 1) := by decide +kernel
theorem dL_prompt_1 : decode cL_prompt 1 = .ok (.iconst 0, 1) := by decide +kernel
theorem dL_prompt_2 : decode cL_prompt 2 = .ok (.aload_n 0, 1) := by decide +kernel
theorem dL_prompt_3 : decode cL_prompt 3 = .ok (.iload_n 1, 1) := by decide +kernel
