theorem dL_days_14 : decode cL_days 14 = .ok (.iload 4, 2) := by decide +kernel
theorem dL_days_16 : decode cL_days 16 = .ok (.iadd, 1) := by decide +kernel
theorem dL_days_17 : decode cL_days 17 = .ok (.iastore, 1) := by decide +kernel
theorem dL_days_18 : decode cL_days 18 = .ok (.aload_n 0, 1) := by decide +kernel
theorem dL_days_19 : decode cL_days 19 = .ok (.iload 4, 2) := by decide +kernel
theorem dL_days_21 : decode cL_days 21 = .ok (.invokestatic 135, 3) := by decide +kernel
theorem dL_days_24 : decode cL_days 24 = .ok (.aload_n 1, 1) := by decide +kernel
theorem dL_days_25 : decode cL_days 25 = .ok (.iconst 0, 1) := by decide +kernel
theorem dL_days_26 : decode cL_days 26 = .ok (.iaload, 1) := by decide +kernel
theorem dL_days_27 : decode cL_days 27 = .ok (.if_icmp .ne 7, 3) := by decide +kernel
theorem dL_days_30 : decode cL_days 30 = .ok (.iconst 1, 1) := by decide +kernel
theorem dL_days_31 : decode cL_days 31 = .ok (.goto 4, 3) := by decide +kernel
theorem dL_days_34 : decode cL_days 34 = .ok (.iconst 0, 1) := by decide +kernel
theorem dL_days_35 : decode cL_days 35 = .ok (.istore 5, 2) := by decide +kernel
theorem dL_days_37 : decode cL_days 37 = .ok (.iconst 0, 1) := by decide +kernel
theorem dL_days_38 : decode cL_days 38 = .ok (.istore 6, 2) := by decide +kernel
theorem dL_days_40 : decode cL_days 40 = .ok (.iload 6, 2) := by decide +kernel
theorem dL_days_42 : decode cL_days 42 = .ok (.iconst 3, 1) := by decide +kernel
theorem dL_days_43 : decode cL_days 43 = .ok (.if_icmp .ge 90, 3) := by decide +kernel
theorem dL_days_46 : decode cL_days 46 = .ok (.iload 5, 2) := by decide +kernel
theorem dL_days_48 : decode cL_days 48 = .ok (.ifCond .eq 85, 3) := by decide +kernel
theorem dL_days_51 : decode cL_days 51 = .ok (.aload_n 0, 1) := by decide +kernel
theorem dL_days_52 : decode cL_days 52 = .ok (.iload 6, 2) := by decide +kernel
theorem dL_days_54 : decode cL_days 54 = .ok (.iconst 1, 1) := by decide +kernel
theorem dL_days_55 : decode cL_days 55 = .ok (.invokestatic 130, 3) := by decide +kernel
theorem dL_days_58 : decode cL_days 58 = .ok (.istore 7, 2) := by decide +kernel
theorem dL_days_60 : decode cL_days 60 = .ok (.aload_n 2, 1) := by decide +kernel
theorem dL_days_61 : decode cL_days 61 = .ok (.iconst 3, 1) := by decide +kernel
theorem dL_days_62 : decode cL_days 62 = .ok (.iload 6, 2) := by decide +kernel
theorem dL_days_64 : decode cL_days 64 = .ok (.imul, 1) := by decide +kernel
theorem dL_days_65 : decode cL_days 65 = .ok (.iconst 1, 1) := by decide +kernel
theorem dL_days_66 : decode cL_days 66 = .ok (.iadd, 1) := by decide +kernel
theorem dL_days_67 : decode cL_days 67 = .ok (.iaload, 1) := by decide +kernel
theorem dL_days_68 : decode cL_days 68 = .ok (.iload 4, 2) := by decide +kernel
theorem dL_days_70 : decode cL_days 70 = .ok (.aload_n 2, 1) := by decide +kernel
theorem dL_days_71 : decode cL_days 71 = .ok (.iconst 3, 1) := by decide +kernel
theorem dL_days_72 : decode cL_days 72 = .ok (.iload 6, 2) := by decide +kernel
theorem dL_days_74 : decode cL_days 74 = .ok (.imul, 1) := by decide +kernel
theorem dL_days_75 : decode cL_days 75 = .ok (.iconst 2, 1) := by decide +kernel
theorem dL_days_76 : decode cL_days 76 = .ok (.iadd, 1) := by decide +kernel
theorem dL_days_77 : decode cL_days 77 = .ok (.iaload, 1) := by decide +kernel
theorem dL_days_78 : decode cL_days 78 = .ok (.imul, 1) := by decide +kernel
theorem dL_days_79 : decode cL_days 79 = .ok (.iadd, 1) := by decide +kernel
theorem dL_days_80 : decode cL_days 80 = .ok (.istore 8, 2) := by decide +kernel
theorem dL_days_82 : decode cL_days 82 = .ok (.iload 7, 2) := by decide +kernel
theorem dL_days_84 : decode cL_days 84 = .ok (.iload 8, 2) := by decide +kernel
theorem dL_days_86 : decode cL_days 86 = .ok (.ifCond .ge 7, 3) := by decide +kernel
theorem dL_days_89 : decode cL_days 89 = .ok (.iconst 0, 1) := by decide +kernel
theorem dL_days_90 : decode cL_days 90 = .ok (.goto 17, 3) := by decide +kernel
theorem dL_days_93 : decode cL_days 93 = .ok (.iload 8, 2) := by decide +kernel
theorem dL_days_95 : decode cL_days 95 = .ok (.bipush 100, 2) := by decide +kernel
theorem dL_days_97 : decode cL_days 97 = .ok (.if_icmp .le 8, 3) := by decide +kernel
theorem dL_days_100 : decode cL_days 100 = .ok (.bipush 100, 2) := by decide +kernel
theorem dL_days_102 : decode cL_days 102 = .ok (.goto 5, 3) := by decide +kernel
theorem dL_days_105 : decode cL_days 105 = .ok (.iload 8, 2) := by decide +kernel
theorem dL_days_107 : decode cL_days 107 = .ok (.if_icmp .ne 7, 3) := by decide +kernel
theorem dL_days_110 : decode cL_days 110 = .ok (.iconst 1, 1) := by decide +kernel
theorem dL_days_111 : decode cL_days 111 = .ok (.goto 4, 3) := by decide +kernel
theorem dL_days_114 : decode cL_days 114 = .ok (.iconst 0, 1) := by decide +kernel
theorem dL_days_115 : decode cL_days 115 = .ok (.istore 5, 2) := by decide +kernel
theorem dL_days_117 : decode cL_days 117 = .ok (.aload_n 2, 1) := by decide +kernel
theorem dL_days_118 : decode cL_days 118 = .ok (.iconst 3, 1) := by decide +kernel
theorem dL_days_119 : decode cL_days 119 = .ok (.iload 6, 2) := by decide +kernel
theorem dL_days_121 : decode cL_days 121 = .ok (.imul, 1) := by decide +kernel
theorem dL_days_122 : decode cL_days 122 = .ok (.iconst 1, 1) := by decide +kernel
theorem dL_days_123 : decode cL_days 123 = .ok (.iadd, 1) := by decide +kernel
theorem dL_days_124 : decode cL_days 124 = .ok (.iload 7, 2) := by decide +kernel
theorem dL_days_126 : decode cL_days 126 = .ok (.iastore, 1) := by decide +kernel
theorem dL_days_127 : decode cL_days 127 = .ok (.iinc 6 1, 3) := by decide +kernel
theorem dL_days_130 : decode cL_days 130 = .ok (.goto (-90), 3) := by decide +kernel
theorem dL_days_133 : decode cL_days 133 = .ok (.iload 5, 2) := by decide +kernel
theorem dL_days_135 : decode cL_days 135 = .ok (.ireturn, 1) := by decide +kernel
set_option maxRecDepth 20000 in
theorem ggL_appeals_L_low : GoodIn wsL_appeals wsL_low := goodIn_r _ [5, 6] (by decide +kernel) (by decide +kernel)
set_option maxRecDepth 20000 in
theorem gL_appeals_L_low : GoodIn wsL_appeals (va_wsS RL 102 yL_low wsL_low) := goodIn_app (goodIn_of _ (by decide +kernel)) ggL_appeals_L_low
set_option maxRecDepth 20000 in
theorem ggL_appeals_L_appeal : GoodIn wsL_appeals wsL_appeal := goodIn_ca (goodIn_ca (goodIn_r _ [9, 10, 11, 12, 1, 13, 14, 15, 16, 17, 18, 19, 20, 21, 22, 23, 24, 25, 26, 27, 28, 29, 30, 31, 32, 33, 34, 35, 36, 37, 38, 39, 40, 41, 42, 43, 44, 45, 46, 47, 48, 49, 50, 51, 52, 53, 54, 55, 56, 57, 58, 59, 60, 61, 62, 63, 64, 65, 66, 67, 68, 69, 70, 71, 72, 73, 74, 75, 76, 77, 78, 79, 80, 81, 82, 83, 84, 85, 86, 87, 88, 89, 90, 91, 108, 109, 110, 111, 112, 113, 114, 115, 116, 117, 118, 119, 120, 121, 122, 123, 124, 125, 126, 127, 128, 129, 130, 131, 132, 133, 134, 135, 136, 137, 138] (by decide +kernel) (by decide +kernel)) (goodIn_sub (fun _ h => List.mem_cons_of_mem _ (List.mem_append_left _ (List.mem_append_left _ (List.mem_append_right _ h)))) (by decide +kernel))) (goodIn_sub (fun _ h => List.mem_cons_of_mem _ (List.mem_append_left _ (List.mem_append_right _ h))) (by decide +kernel))
set_option maxRecDepth 20000 in
theorem gL_appeals_L_appeal : GoodIn wsL_appeals (va_wsS RL 137 yL_appeal wsL_appeal) := goodIn_app (goodIn_of _ (by decide +kernel)) ggL_appeals_L_appeal
set_option maxRecDepth 20000 in
theorem ggL_appeals_L_of : GoodIn wsL_appeals wsL_of := goodIn_ca (goodIn_ca (goodIn_r _ [94, 10, 95, 12, 96, 97, 98, 99, 16, 100, 18, 19, 101, 102, 103, 61, 22, 24, 25, 26, 27, 28, 104, 105, 106, 107, 47, 48, 49, 50, 51, 52, 53, 54, 37, 55, 56, 57, 58, 59, 60, 23, 29, 30, 31, 32, 33, 62, 63, 64, 65, 66, 67, 68, 69, 70, 71, 72, 73, 74, 75, 76, 77, 78, 79, 80, 81, 82, 83, 84, 85, 86, 87, 88, 89, 90, 91, 41, 42, 43, 44, 45, 46, 34, 35, 36, 38, 39, 40, 108, 109, 110, 111, 112, 113, 114, 115, 116, 117, 118, 119, 120, 121, 122, 123, 124, 125, 126, 127, 128, 129, 130, 131, 132, 133, 134, 135, 136, 137, 138] (by decide +kernel) (by decide +kernel)) (goodIn_sub (fun _ h => List.mem_cons_of_mem _ (List.mem_append_left _ (List.mem_append_left _ (List.mem_append_right _ h)))) (by decide +kernel))) (goodIn_sub (fun _ h => List.mem_cons_of_mem _ (List.mem_append_right _ h)) (by decide +kernel))
set_option maxRecDepth 20000 in
theorem gL_appeals_L_of : GoodIn wsL_appeals (va_wsS RL 87 yL_of wsL_of) := goodIn_app (goodIn_of _ (by decide +kernel)) ggL_appeals_L_of
theorem dL_appeals_0 : decode cL_appeals 0 = .ok (.iload_n 3, 1) := by decide +kernel
theorem dL_appeals_1 : decode cL_appeals 1 = .ok (.aload_n 1, 1) := by decide +kernel
theorem dL_appeals_2 : decode cL_appeals 2 = .ok (.iconst 3, 1) := by decide +kernel
theorem dL_appeals_3 : decode cL_appeals 3 = .ok (.iaload, 1) := by decide +kernel
theorem dL_appeals_4 : decode cL_appeals 4 = .ok (.invokestatic 102, 3) := by decide +kernel
theorem dL_appeals_7 : decode cL_appeals 7 = .ok (.istore 4, 2) := by decide +kernel
theorem dL_appeals_9 : decode cL_appeals 9 = .ok (.iload_n 3, 1) := by decide +kernel
theorem dL_appeals_10 : decode cL_appeals 10 = .ok (.iconst 4, 1) := by decide +kernel
theorem dL_appeals_11 : decode cL_appeals 11 = .ok (.ishr, 1) := by decide +kernel
theorem dL_appeals_12 : decode cL_appeals 12 = .ok (.iconst 4, 1) := by decide +kernel
theorem dL_appeals_13 : decode cL_appeals 13 = .ok (.invokestatic 102, 3) := by decide +kernel
theorem dL_appeals_16 : decode cL_appeals 16 = .ok (.istore 5, 2) := by decide +kernel
theorem dL_appeals_18 : decode cL_appeals 18 = .ok (.bipush 8, 2) := by decide +kernel
theorem dL_appeals_20 : decode cL_appeals 20 = .ok (.iload 4, 2) := by decide +kernel
theorem dL_appeals_22 : decode cL_appeals 22 = .ok (.imul, 1) := by decide +kernel
theorem dL_appeals_23 : decode cL_appeals 23 = .ok (.istore 6, 2) := by decide +kernel
theorem dL_appeals_25 : decode cL_appeals 25 = .ok (.aload_n 2, 1) := by decide +kernel
theorem dL_appeals_26 : decode cL_appeals 26 = .ok (.iload 6, 2) := by decide +kernel
theorem dL_appeals_28 : decode cL_appeals 28 = .ok (.iconst 5, 1) := by decide +kernel
theorem dL_appeals_29 : decode cL_appeals 29 = .ok (.iadd, 1) := by decide +kernel
theorem dL_appeals_30 : decode cL_appeals 30 = .ok (.iaload, 1) := by decide +kernel
theorem dL_appeals_31 : decode cL_appeals 31 = .ok (.iconst 2, 1) := by decide +kernel
theorem dL_appeals_32 : decode cL_appeals 32 = .ok (.aload_n 2, 1) := by decide +kernel
theorem dL_appeals_33 : decode cL_appeals 33 = .ok (.iload 6, 2) := by decide +kernel
theorem dL_appeals_35 : decode cL_appeals 35 = .ok (.iconst 4, 1) := by decide +kernel
theorem dL_appeals_36 : decode cL_appeals 36 = .ok (.iadd, 1) := by decide +kernel
theorem dL_appeals_37 : decode cL_appeals 37 = .ok (.iaload, 1) := by decide +kernel
theorem dL_appeals_38 : decode cL_appeals 38 = .ok (.imul, 1) := by decide +kernel
theorem dL_appeals_39 : decode cL_appeals 39 = .ok (.if_icmp .ne 28, 3) := by decide +kernel
theorem dL_appeals_42 : decode cL_appeals 42 = .ok (.aload_n 2, 1) := by decide +kernel
theorem dL_appeals_43 : decode cL_appeals 43 = .ok (.iload 6, 2) := by decide +kernel
theorem dL_appeals_45 : decode cL_appeals 45 = .ok (.bipush 7, 2) := by decide +kernel
theorem dL_appeals_47 : decode cL_appeals 47 = .ok (.iadd, 1) := by decide +kernel
theorem dL_appeals_48 : decode cL_appeals 48 = .ok (.iaload, 1) := by decide +kernel
theorem dL_appeals_49 : decode cL_appeals 49 = .ok (.ifCond .ge 18, 3) := by decide +kernel
theorem dL_appeals_52 : decode cL_appeals 52 = .ok (.iload 5, 2) := by decide +kernel
theorem dL_appeals_54 : decode cL_appeals 54 = .ok (.aload_n 2, 1) := by decide +kernel
theorem dL_appeals_55 : decode cL_appeals 55 = .ok (.iload 6, 2) := by decide +kernel
theorem dL_appeals_57 : decode cL_appeals 57 = .ok (.iconst 2, 1) := by decide +kernel
theorem dL_appeals_58 : decode cL_appeals 58 = .ok (.iadd, 1) := by decide +kernel
theorem dL_appeals_59 : decode cL_appeals 59 = .ok (.iaload, 1) := by decide +kernel
theorem dL_appeals_60 : decode cL_appeals 60 = .ok (.if_icmp .eq 7, 3) := by decide +kernel
theorem dL_appeals_63 : decode cL_appeals 63 = .ok (.iconst 1, 1) := by decide +kernel
theorem dL_appeals_64 : decode cL_appeals 64 = .ok (.goto 4, 3) := by decide +kernel
theorem dL_appeals_67 : decode cL_appeals 67 = .ok (.iconst 0, 1) := by decide +kernel
theorem dL_appeals_68 : decode cL_appeals 68 = .ok (.istore 7, 2) := by decide +kernel
theorem dL_appeals_70 : decode cL_appeals 70 = .ok (.aload_n 0, 1) := by decide +kernel
theorem dL_appeals_71 : decode cL_appeals 71 = .ok (.iload 4, 2) := by decide +kernel
theorem dL_appeals_73 : decode cL_appeals 73 = .ok (.iload 5, 2) := by decide +kernel
theorem dL_appeals_75 : decode cL_appeals 75 = .ok (.invokestatic 137, 3) := by decide +kernel
theorem dL_appeals_78 : decode cL_appeals 78 = .ok (.istore 8, 2) := by decide +kernel
theorem dL_appeals_80 : decode cL_appeals 80 = .ok (.aload_n 2, 1) := by decide +kernel
theorem dL_appeals_81 : decode cL_appeals 81 = .ok (.iload 6, 2) := by decide +kernel
theorem dL_appeals_83 : decode cL_appeals 83 = .ok (.bipush 7, 2) := by decide +kernel
theorem dL_appeals_85 : decode cL_appeals 85 = .ok (.iadd, 1) := by decide +kernel
theorem dL_appeals_86 : decode cL_appeals 86 = .ok (.iload 7, 2) := by decide +kernel
theorem dL_appeals_88 : decode cL_appeals 88 = .ok (.ifCond .eq 8, 3) := by decide +kernel
theorem dL_appeals_91 : decode cL_appeals 91 = .ok (.iload 5, 2) := by decide +kernel
theorem dL_appeals_93 : decode cL_appeals 93 = .ok (.goto 10, 3) := by decide +kernel
theorem dL_appeals_96 : decode cL_appeals 96 = .ok (.aload_n 2, 1) := by decide +kernel
theorem dL_appeals_97 : decode cL_appeals 97 = .ok (.iload 6, 2) := by decide +kernel
theorem dL_appeals_99 : decode cL_appeals 99 = .ok (.bipush 7, 2) := by decide +kernel
theorem dL_appeals_101 : decode cL_appeals 101 = .ok (.iadd, 1) := by decide +kernel
theorem dL_appeals_102 : decode cL_appeals 102 = .ok (.iaload, 1) := by decide +kernel
theorem dL_appeals_103 : decode cL_appeals 103 = .ok (.iastore, 1) := by decide +kernel
theorem dL_appeals_104 : decode cL_appeals 104 = .ok (.iload 7, 2) := by decide +kernel
theorem dL_appeals_106 : decode cL_appeals 106 = .ok (.ifCond .eq 49, 3) := by decide +kernel
theorem dL_appeals_109 : decode cL_appeals 109 = .ok (.iload 8, 2) := by decide +kernel
theorem dL_appeals_111 : decode cL_appeals 111 = .ok (.aload_n 0, 1) := by decide +kernel
theorem dL_appeals_112 : decode cL_appeals 112 = .ok (.iload 4, 2) := by decide +kernel
theorem dL_appeals_114 : decode cL_appeals 114 = .ok (.iconst 3, 1) := by decide +kernel
theorem dL_appeals_115 : decode cL_appeals 115 = .ok (.invokestatic 87, 3) := by decide +kernel
theorem dL_appeals_118 : decode cL_appeals 118 = .ok (.if_icmp .ne 33, 3) := by decide +kernel
theorem dL_appeals_121 : decode cL_appeals 121 = .ok (.iload 8, 2) := by decide +kernel
theorem dL_appeals_123 : decode cL_appeals 123 = .ok (.iconst (-1), 1) := by decide +kernel
theorem dL_appeals_124 : decode cL_appeals 124 = .ok (.if_icmp .eq 23, 3) := by decide +kernel
theorem dL_appeals_127 : decode cL_appeals 127 = .ok (.iload 8, 2) := by decide +kernel
theorem dL_appeals_129 : decode cL_appeals 129 = .ok (.aload_n 2, 1) := by decide +kernel
theorem dL_appeals_130 : decode cL_appeals 130 = .ok (.iload 6, 2) := by decide +kernel
theorem dL_appeals_132 : decode cL_appeals 132 = .ok (.iaload, 1) := by decide +kernel
theorem dL_appeals_133 : decode cL_appeals 133 = .ok (.if_icmp .eq 14, 3) := by decide +kernel
theorem dL_appeals_136 : decode cL_appeals 136 = .ok (.iload 8, 2) := by decide +kernel
theorem dL_appeals_138 : decode cL_appeals 138 = .ok (.aload_n 2, 1) := by decide +kernel
theorem dL_appeals_139 : decode cL_appeals 139 = .ok (.iload 6, 2) := by decide +kernel
theorem dL_appeals_141 : decode cL_appeals 141 = .ok (.iconst 1, 1) := by decide +kernel
theorem dL_appeals_142 : decode cL_appeals 142 = .ok (.iadd, 1) := by decide +kernel
theorem dL_appeals_143 : decode cL_appeals 143 = .ok (.iaload, 1) := by decide +kernel
theorem dL_appeals_144 : decode cL_appeals 144 = .ok (.if_icmp .ne 7, 3) := by decide +kernel
theorem dL_appeals_147 : decode cL_appeals 147 = .ok (.iconst 1, 1) := by decide +kernel
theorem dL_appeals_148 : decode cL_appeals 148 = .ok (.goto 19, 3) := by decide +kernel
theorem dL_appeals_151 : decode cL_appeals 151 = .ok (.iconst 0, 1) := by decide +kernel
theorem dL_appeals_152 : decode cL_appeals 152 = .ok (.goto 15, 3) := by decide +kernel
theorem dL_appeals_155 : decode cL_appeals 155 = .ok (.iload 8, 2) := by decide +kernel
theorem dL_appeals_157 : decode cL_appeals 157 = .ok (.ldc 21, 2) := by decide +kernel
theorem dL_appeals_159 : decode cL_appeals 159 = .ok (.if_icmp .ne 7, 3) := by decide +kernel
theorem dL_appeals_162 : decode cL_appeals 162 = .ok (.iconst 1, 1) := by decide +kernel
theorem dL_appeals_163 : decode cL_appeals 163 = .ok (.goto 4, 3) := by decide +kernel
theorem dL_appeals_166 : decode cL_appeals 166 = .ok (.iconst 0, 1) := by decide +kernel
theorem dL_appeals_167 : decode cL_appeals 167 = .ok (.ireturn, 1) := by decide +kernel
set_option maxRecDepth 20000 in
theorem ggL_acts_L_low : GoodIn wsL_acts wsL_low := goodIn_r _ [5, 6] (by decide +kernel) (by decide +kernel)
set_option maxRecDepth 20000 in
theorem gL_acts_L_low : GoodIn wsL_acts (va_wsS RL 102 yL_low wsL_low) := goodIn_app (goodIn_of _ (by decide +kernel)) ggL_acts_L_low
set_option maxRecDepth 20000 in
theorem ggL_acts_L_drafts : GoodIn wsL_acts wsL_drafts := goodIn_ca (goodIn_ca (goodIn_r _ [9, 10, 1, 2, 3, 4, 5, 6, 11, 12, 13, 14, 15, 16, 17, 18, 19, 20, 21, 22, 23, 24, 25, 26, 27, 28, 29, 30, 31, 32, 33, 34, 35, 36, 37, 38, 39, 40, 41, 42, 43, 44, 45, 46, 47, 48, 49, 50, 51, 52, 427, 428, 429, 430, 431, 432, 433, 434, 435, 436, 437, 438, 439, 440, 441, 442] (by decide +kernel) (by decide +kernel)) (goodIn_sub (fun _ h => List.mem_cons_of_mem _ (List.mem_append_left _ (List.mem_append_left _ (List.mem_append_right _ h)))) (by decide +kernel))) (goodIn_sub (fun _ h => List.mem_cons_of_mem _ (List.mem_append_left _ (List.mem_append_right _ h))) (by decide +kernel))
set_option maxRecDepth 20000 in
theorem gL_acts_L_drafts : GoodIn wsL_acts (va_wsS RL 139 yL_drafts wsL_drafts) := goodIn_app (goodIn_of _ (by decide +kernel)) ggL_acts_L_drafts
set_option maxRecDepth 20000 in
theorem ggL_acts_L_isDraft : GoodIn wsL_acts wsL_isDraft := goodIn_ca (goodIn_ca (goodIn_r _ [55, 56, 57, 58, 59, 60, 61, 62, 4, 63, 64, 65, 66, 67, 19, 68, 69, 70, 71, 72, 73, 25, 74, 75, 76, 77, 78, 79, 80, 81, 82, 83, 84, 85, 86, 87, 40, 41, 88, 89, 90, 91, 92, 93, 94, 95, 96, 97, 98, 99, 100, 101, 102, 103, 49, 104, 51, 52, 105, 106, 107, 29, 108, 42, 109, 110, 111, 112, 43, 44, 45, 113, 114, 115, 116, 117, 118, 119, 120, 121, 122, 123, 124, 125, 126, 127, 128, 129, 130, 131, 132, 133, 134, 135, 136, 137, 138, 139, 140, 141, 2, 3, 5, 6, 142, 143, 144, 14, 145, 146, 147, 148, 21, 22, 149, 150, 151, 152, 443, 444, 445, 446, 427, 428, 429, 430, 431, 432, 433, 434, 435, 436, 437, 438, 447, 448, 449, 439, 440, 441, 442, 450, 451, 452] (by decide +kernel) (by decide +kernel)) (goodIn_sub (fun _ h => List.mem_cons_of_mem _ (List.mem_append_right _ h)) (by decide +kernel))) (goodIn_sub (fun _ h => List.mem_cons_of_mem _ (List.mem_append_left _ (List.mem_append_left _ (List.mem_append_right _ h)))) (by decide +kernel))
set_option maxRecDepth 20000 in
theorem gL_acts_L_isDraft : GoodIn wsL_acts (va_wsS RL 143 yL_isDraft wsL_isDraft) := goodIn_app (goodIn_of _ (by decide +kernel)) ggL_acts_L_isDraft
set_option maxRecDepth 20000 in
theorem ggL_acts_L_signs : GoodIn wsL_acts wsL_signs := goodIn_ca (goodIn_r _ [155, 1, 156, 157, 4, 158, 15, 159, 160, 161, 19, 162, 23, 24, 25, 26, 163, 78, 164, 165, 49, 33, 34, 35, 166, 167, 168, 40, 41, 169, 52, 170, 171, 172, 173, 174, 175, 176, 177, 51, 178, 179, 180, 427, 428, 429, 430, 431, 432, 433, 434, 435, 436, 437, 438] (by decide +kernel) (by decide +kernel)) (goodIn_sub (fun _ h => List.mem_cons_of_mem _ (List.mem_append_left _ (List.mem_append_right _ h))) (by decide +kernel))
set_option maxRecDepth 20000 in
theorem gL_acts_L_signs : GoodIn wsL_acts (va_wsS RL 147 yL_signs wsL_signs) := goodIn_app (goodIn_of _ (by decide +kernel)) ggL_acts_L_signs
set_option maxRecDepth 20000 in
theorem ggL_acts_L_duels : GoodIn wsL_acts wsL_duels := goodIn_ca (goodIn_ca (goodIn_ca (goodIn_r _ [183, 10, 1, 184, 2, 3, 4, 5, 6, 185, 186, 187, 64, 14, 15, 188, 189, 190, 19, 191, 69, 70, 21, 22, 23, 24, 163, 192, 193, 194, 195, 196, 197, 198, 199, 200, 33, 34, 35, 201, 202, 203, 204, 205, 206, 207, 208, 209, 210, 211, 212, 213, 214, 40, 41, 215, 216, 217, 218, 219, 220, 221, 222, 223, 224, 225, 226, 227, 228, 229, 230, 231, 232, 233, 234, 235, 236, 237, 238, 239, 240, 241, 242, 243, 244, 245, 246, 247, 248, 249, 250, 251, 252, 253, 254, 255, 256, 257, 258, 259, 260, 261, 262, 263, 264, 265, 266, 267, 268, 269, 270, 271, 272, 273, 274, 275, 276, 83, 277, 278, 279, 280, 281, 282, 130, 131, 132, 73, 133, 91, 89, 134, 135, 136, 95, 137, 138, 127, 139, 128, 140, 129, 141, 283, 284, 285, 286, 287, 288, 289, 290, 291, 292, 293, 427, 428, 429, 430, 431, 432, 433, 434, 435, 436, 453, 454, 455, 456, 457, 458, 459, 460, 461, 462, 443, 444, 445, 446, 463, 450, 451, 452, 447, 448, 449] (by decide +kernel) (by decide +kernel)) (goodIn_sub (fun _ h => List.mem_cons_of_mem _ (List.mem_append_right _ h)) (by decide +kernel))) (goodIn_sub (fun _ h => List.mem_cons_of_mem _ (List.mem_append_left _ (List.mem_append_left _ (List.mem_append_right _ h)))) (by decide +kernel))) (goodIn_sub (fun _ h => List.mem_cons_of_mem _ (List.mem_append_left _ (List.mem_append_right _ h))) (by decide +kernel))
set_option maxRecDepth 20000 in
theorem gL_acts_L_duels : GoodIn wsL_acts (va_wsS RL 151 yL_duels wsL_duels) := goodIn_app (goodIn_of _ (by decide +kernel)) ggL_acts_L_duels
set_option maxRecDepth 20000 in
theorem ggL_acts_L_days : GoodIn wsL_acts wsL_days := goodIn_ca (goodIn_ca (goodIn_ca (goodIn_r _ [296, 2, 3, 4, 5, 6, 297, 298, 299, 14, 15, 10, 1, 300, 301, 302, 19, 303, 21, 22, 23, 24, 197, 210, 33, 34, 35, 304, 305, 306, 307, 308, 309, 310, 311, 312, 111, 313, 314, 315, 316, 317, 318, 319, 64, 184, 320, 321, 322, 323, 69, 70, 324, 325, 206, 207, 208, 209, 427, 428, 429, 430, 431, 432, 433, 434, 435, 436, 464, 465, 466] (by decide +kernel) (by decide +kernel)) (goodIn_sub (fun _ h => List.mem_cons_of_mem _ (List.mem_append_left _ (List.mem_append_left _ (List.mem_append_right _ h)))) (by decide +kernel))) (goodIn_sub (fun _ h => List.mem_cons_of_mem _ (List.mem_append_left _ (List.mem_append_right _ h))) (by decide +kernel))) (goodIn_sub (fun _ h => List.mem_cons_of_mem _ (List.mem_append_right _ h)) (by decide +kernel))
set_option maxRecDepth 20000 in
theorem gL_acts_L_days : GoodIn wsL_acts (va_wsS RL 155 yL_days wsL_days) := goodIn_app (goodIn_of _ (by decide +kernel)) ggL_acts_L_days
set_option maxRecDepth 20000 in
theorem ggL_acts_L_buy : GoodIn wsL_acts wsL_buy := goodIn_ca (goodIn_ca (goodIn_ca (goodIn_r _ [328, 64, 14, 15, 184, 10, 1, 329, 330, 331, 19, 332, 69, 70, 21, 22, 23, 24, 324, 206, 207, 208, 209, 210, 33, 34, 35, 464, 465, 466, 427, 428, 429, 430, 431, 432, 433, 434, 435, 436] (by decide +kernel) (by decide +kernel)) (goodIn_sub (fun _ h => List.mem_cons_of_mem _ (List.mem_append_right _ h)) (by decide +kernel))) (goodIn_sub (fun _ h => List.mem_cons_of_mem _ (List.mem_append_left _ (List.mem_append_left _ (List.mem_append_right _ h)))) (by decide +kernel))) (goodIn_sub (fun _ h => List.mem_cons_of_mem _ (List.mem_append_left _ (List.mem_append_right _ h))) (by decide +kernel))
set_option maxRecDepth 20000 in
theorem gL_acts_L_buy : GoodIn wsL_acts (va_wsS RL 158 yL_buy wsL_buy) := goodIn_app (goodIn_of _ (by decide +kernel)) ggL_acts_L_buy
set_option maxRecDepth 20000 in
theorem ggL_acts_L_rise : GoodIn wsL_acts wsL_rise := goodIn_ca (goodIn_ca (goodIn_r _ [335, 64, 14, 184, 10, 336, 337, 338, 19, 339, 69, 70, 21, 22, 340, 325, 206, 207, 208, 209, 210, 33, 34, 35, 464, 465, 466, 427, 428, 429, 430, 431, 432, 433, 434, 435, 436] (by decide +kernel) (by decide +kernel)) (goodIn_sub (fun _ h => List.mem_cons_of_mem _ (List.mem_append_right _ h)) (by decide +kernel))) (goodIn_sub (fun _ h => List.mem_cons_of_mem _ (List.mem_append_left _ (List.mem_append_left _ (List.mem_append_right _ h)))) (by decide +kernel))
set_option maxRecDepth 20000 in
theorem gL_acts_L_rise : GoodIn wsL_acts (va_wsS RL 160 yL_rise wsL_rise) := goodIn_app (goodIn_of _ (by decide +kernel)) ggL_acts_L_rise
set_option maxRecDepth 20000 in
theorem ggL_acts_L_style : GoodIn wsL_acts wsL_style := goodIn_ca (goodIn_ca (goodIn_r _ [343, 64, 14, 184, 10, 344, 345, 346, 19, 347, 69, 70, 21, 22, 348, 349, 350, 79, 80, 81, 82, 83, 33, 34, 35, 450, 451, 452, 427, 428, 429, 430, 431, 432, 433, 434, 435, 436] (by decide +kernel) (by decide +kernel)) (goodIn_sub (fun _ h => List.mem_cons_of_mem _ (List.mem_append_right _ h)) (by decide +kernel))) (goodIn_sub (fun _ h => List.mem_cons_of_mem _ (List.mem_append_left _ (List.mem_append_left _ (List.mem_append_right _ h)))) (by decide +kernel))
set_option maxRecDepth 20000 in
theorem gL_acts_L_style : GoodIn wsL_acts (va_wsS RL 162 yL_style wsL_style) := goodIn_app (goodIn_of _ (by decide +kernel)) ggL_acts_L_style
set_option maxRecDepth 20000 in
theorem ggL_acts_L_learn : GoodIn wsL_acts wsL_learn := goodIn_ca (goodIn_ca (goodIn_r _ [353, 64, 15, 184, 1, 354, 355, 356, 19, 357, 69, 70, 23, 24, 197, 201, 202, 203, 204, 205, 79, 80, 81, 82, 83, 277, 278, 279, 280, 281, 282, 358, 359, 360, 361, 362, 363, 364, 365, 427, 428, 429, 430, 431, 432, 433, 434, 435, 436, 463] (by decide +kernel) (by decide +kernel)) (goodIn_sub (fun _ h => List.mem_cons_of_mem _ (List.mem_append_right _ h)) (by decide +kernel))) (goodIn_sub (fun _ h => List.mem_cons_of_mem _ (List.mem_append_left _ (List.mem_append_right _ h))) (by decide +kernel))
set_option maxRecDepth 20000 in
theorem gL_acts_L_learn : GoodIn wsL_acts (va_wsS RL 164 yL_learn wsL_learn) := goodIn_app (goodIn_of _ (by decide +kernel)) ggL_acts_L_learn
set_option maxRecDepth 20000 in
theorem ggL_acts_L_hands : GoodIn wsL_acts wsL_hands := goodIn_ca (goodIn_ca (goodIn_ca (goodIn_r _ [368, 1, 184, 2, 3, 4, 5, 6, 369, 370, 371, 64, 14, 15, 10, 372, 373, 374, 19, 375, 69, 70, 21, 22, 23, 24, 252, 376, 25, 26, 324, 377, 71, 72, 73, 325, 237, 238, 239, 240, 193, 33, 34, 35, 241, 242, 243, 196, 244, 216, 74, 75, 76, 77, 78, 289, 290, 291, 292, 293, 224, 206, 207, 208, 209, 210, 378, 379, 380, 381, 220, 221, 382, 383, 384, 84, 85, 86, 87, 40, 41, 88, 89, 90, 91, 92, 93, 94, 95, 96, 97, 98, 99, 100, 101, 102, 103, 49, 104, 51, 52, 105, 106, 107, 29, 108, 42, 109, 110, 111, 112, 43, 44, 45, 113, 114, 115, 116, 117, 118, 119, 120, 121, 122, 123, 124, 125, 126, 127, 128, 129, 385, 386, 387, 388, 218, 174, 175, 176, 177, 170, 171, 172, 173, 317, 318, 319, 320, 321, 322, 323, 389, 390, 391, 392, 393, 394, 395, 396, 263, 264, 265, 266, 267, 453, 454, 455, 456, 457, 458, 459, 460, 461, 462, 427, 428, 429, 430, 431, 432, 433, 434, 435, 436, 437, 438, 464, 465, 466, 443, 444, 445, 446, 447, 448, 449, 439, 440, 441, 442] (by decide +kernel) (by decide +kernel)) (goodIn_sub (fun _ h => List.mem_cons_of_mem _ (List.mem_append_right _ h)) (by decide +kernel))) (goodIn_sub (fun _ h => List.mem_cons_of_mem _ (List.mem_append_left _ (List.mem_append_left _ (List.mem_append_right _ h)))) (by decide +kernel))) (goodIn_sub (fun _ h => List.mem_cons_of_mem _ (List.mem_append_left _ (List.mem_append_right _ h))) (by decide +kernel))
set_option maxRecDepth 20000 in
theorem gL_acts_L_hands : GoodIn wsL_acts (va_wsS RL 166 yL_hands wsL_hands) := goodIn_app (goodIn_of _ (by decide +kernel)) ggL_acts_L_hands
