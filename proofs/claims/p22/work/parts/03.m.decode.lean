theorem dL_isDraft_191 : decode cL_isDraft 191 = .ok (.ifCond .ne 22, 3) := by decide +kernel
theorem dL_isDraft_194 : decode cL_isDraft 194 = .ok (.aload_n 0, 1) := by decide +kernel
theorem dL_isDraft_195 : decode cL_isDraft 195 = .ok (.iload 4, 2) := by decide +kernel
theorem dL_isDraft_197 : decode cL_isDraft 197 = .ok (.iload 6, 2) := by decide +kernel
theorem dL_isDraft_199 : decode cL_isDraft 199 = .ok (.iconst 3, 1) := by decide +kernel
theorem dL_isDraft_200 : decode cL_isDraft 200 = .ok (.invokestatic 105, 3) := by decide +kernel
theorem dL_isDraft_203 : decode cL_isDraft 203 = .ok (.ldc 73, 2) := by decide +kernel
theorem dL_isDraft_205 : decode cL_isDraft 205 = .ok (.fcmp .l, 1) := by decide +kernel
theorem dL_isDraft_206 : decode cL_isDraft 206 = .ok (.ifCond .ne 7, 3) := by decide +kernel
theorem dL_isDraft_209 : decode cL_isDraft 209 = .ok (.iconst 1, 1) := by decide +kernel
theorem dL_isDraft_210 : decode cL_isDraft 210 = .ok (.goto 4, 3) := by decide +kernel
theorem dL_isDraft_213 : decode cL_isDraft 213 = .ok (.iconst 0, 1) := by decide +kernel
theorem dL_isDraft_214 : decode cL_isDraft 214 = .ok (.istore 5, 2) := by decide +kernel
theorem dL_isDraft_216 : decode cL_isDraft 216 = .ok (.iinc 6 1, 3) := by decide +kernel
theorem dL_isDraft_219 : decode cL_isDraft 219 = .ok (.goto (-128), 3) := by decide +kernel
theorem dL_isDraft_222 : decode cL_isDraft 222 = .ok (.aload_n 0, 1) := by decide +kernel
theorem dL_isDraft_223 : decode cL_isDraft 223 = .ok (.iload 4, 2) := by decide +kernel
theorem dL_isDraft_225 : decode cL_isDraft 225 = .ok (.iload_n 3, 1) := by decide +kernel
theorem dL_isDraft_226 : decode cL_isDraft 226 = .ok (.iconst 4, 1) := by decide +kernel
theorem dL_isDraft_227 : decode cL_isDraft 227 = .ok (.ishr, 1) := by decide +kernel
theorem dL_isDraft_228 : decode cL_isDraft 228 = .ok (.iconst 4, 1) := by decide +kernel
theorem dL_isDraft_229 : decode cL_isDraft 229 = .ok (.invokestatic 102, 3) := by decide +kernel
theorem dL_isDraft_232 : decode cL_isDraft 232 = .ok (.invokestatic 99, 3) := by decide +kernel
theorem dL_isDraft_235 : decode cL_isDraft 235 = .ok (.fstore 6, 2) := by decide +kernel
theorem dL_isDraft_237 : decode cL_isDraft 237 = .ok (.iload 5, 2) := by decide +kernel
theorem dL_isDraft_239 : decode cL_isDraft 239 = .ok (.ifCond .eq 35, 3) := by decide +kernel
theorem dL_isDraft_242 : decode cL_isDraft 242 = .ok (.fload 6, 2) := by decide +kernel
theorem dL_isDraft_244 : decode cL_isDraft 244 = .ok (.fconst 0, 1) := by decide +kernel
theorem dL_isDraft_245 : decode cL_isDraft 245 = .ok (.fcmp .l, 1) := by decide +kernel
theorem dL_isDraft_246 : decode cL_isDraft 246 = .ok (.ifCond .lt 28, 3) := by decide +kernel
theorem dL_isDraft_249 : decode cL_isDraft 249 = .ok (.fload 6, 2) := by decide +kernel
theorem dL_isDraft_251 : decode cL_isDraft 251 = .ok (.ldc 95, 2) := by decide +kernel
theorem dL_isDraft_253 : decode cL_isDraft 253 = .ok (.fcmp .g, 1) := by decide +kernel
theorem dL_isDraft_254 : decode cL_isDraft 254 = .ok (.ifCond .gt 20, 3) := by decide +kernel
theorem dL_isDraft_257 : decode cL_isDraft 257 = .ok (.aload_n 0, 1) := by decide +kernel
theorem dL_isDraft_258 : decode cL_isDraft 258 = .ok (.iload 4, 2) := by decide +kernel
theorem dL_isDraft_260 : decode cL_isDraft 260 = .ok (.iconst 4, 1) := by decide +kernel
theorem dL_isDraft_261 : decode cL_isDraft 261 = .ok (.invokestatic 99, 3) := by decide +kernel
theorem dL_isDraft_264 : decode cL_isDraft 264 = .ok (.ldc 68, 2) := by decide +kernel
theorem dL_isDraft_266 : decode cL_isDraft 266 = .ok (.fcmp .l, 1) := by decide +kernel
theorem dL_isDraft_267 : decode cL_isDraft 267 = .ok (.ifCond .ne 7, 3) := by decide +kernel
theorem dL_isDraft_270 : decode cL_isDraft 270 = .ok (.iconst 1, 1) := by decide +kernel
theorem dL_isDraft_271 : decode cL_isDraft 271 = .ok (.goto 4, 3) := by decide +kernel
theorem dL_isDraft_274 : decode cL_isDraft 274 = .ok (.iconst 0, 1) := by decide +kernel
theorem dL_isDraft_275 : decode cL_isDraft 275 = .ok (.ireturn, 1) := by decide +kernel
set_option maxRecDepth 20000 in
theorem ggL_drafts_L_low : GoodIn wsL_drafts wsL_low := goodIn_r _ [6, 7] (by decide +kernel) (by decide +kernel)
set_option maxRecDepth 20000 in
theorem gL_drafts_L_low : GoodIn wsL_drafts (va_wsS RL 102 yL_low wsL_low) := goodIn_app (goodIn_of _ (by decide +kernel)) ggL_drafts_L_low
set_option maxRecDepth 20000 in
theorem ggL_drafts_L_stroke : GoodIn wsL_drafts wsL_stroke := goodIn_ca (goodIn_ca (goodIn_r _ [10, 11, 12, 1, 2, 13, 14, 15, 16, 17, 18, 19, 20, 21, 22, 23, 24, 25, 26, 27, 28, 29, 30, 31, 32, 33, 34, 35, 36, 37, 38, 39, 40, 41, 42, 43, 44, 45, 46, 47, 48, 49, 50, 51, 52, 53, 54, 55, 56, 57, 58, 59, 60, 61, 62, 63, 64, 65] (by decide +kernel) (by decide +kernel)) (goodIn_sub (fun _ h => List.mem_cons_of_mem _ (List.mem_append_left _ (List.mem_append_right _ h))) (by decide +kernel))) (goodIn_sub (fun _ h => List.mem_cons_of_mem _ (List.mem_append_right _ h)) (by decide +kernel))
set_option maxRecDepth 20000 in
theorem gL_drafts_L_stroke : GoodIn wsL_drafts (va_wsS RL 110 yL_stroke wsL_stroke) := goodIn_app (goodIn_of _ (by decide +kernel)) ggL_drafts_L_stroke
theorem dL_drafts_0 : decode cL_drafts 0 = .ok (.iconst 1, 1) := by decide +kernel
theorem dL_drafts_1 : decode cL_drafts 1 = .ok (.iload_n 2, 1) := by decide +kernel
theorem dL_drafts_2 : decode cL_drafts 2 = .ok (.iconst 3, 1) := by decide +kernel
theorem dL_drafts_3 : decode cL_drafts 3 = .ok (.invokestatic 102, 3) := by decide +kernel
theorem dL_drafts_6 : decode cL_drafts 6 = .ok (.iadd, 1) := by decide +kernel
theorem dL_drafts_7 : decode cL_drafts 7 = .ok (.istore 4, 2) := by decide +kernel
theorem dL_drafts_9 : decode cL_drafts 9 = .ok (.iconst 1, 1) := by decide +kernel
theorem dL_drafts_10 : decode cL_drafts 10 = .ok (.istore 5, 2) := by decide +kernel
theorem dL_drafts_12 : decode cL_drafts 12 = .ok (.iconst 0, 1) := by decide +kernel
theorem dL_drafts_13 : decode cL_drafts 13 = .ok (.istore 6, 2) := by decide +kernel
theorem dL_drafts_15 : decode cL_drafts 15 = .ok (.iload 6, 2) := by decide +kernel
theorem dL_drafts_17 : decode cL_drafts 17 = .ok (.iload 4, 2) := by decide +kernel
theorem dL_drafts_19 : decode cL_drafts 19 = .ok (.if_icmp .ge 165, 3) := by decide +kernel
theorem dL_drafts_22 : decode cL_drafts 22 = .ok (.iload 5, 2) := by decide +kernel
theorem dL_drafts_24 : decode cL_drafts 24 = .ok (.ifCond .eq 160, 3) := by decide +kernel
theorem dL_drafts_27 : decode cL_drafts 27 = .ok (.iload_n 3, 1) := by decide +kernel
theorem dL_drafts_28 : decode cL_drafts 28 = .ok (.iconst 3, 1) := by decide +kernel
theorem dL_drafts_29 : decode cL_drafts 29 = .ok (.iload 6, 2) := by decide +kernel
theorem dL_drafts_31 : decode cL_drafts 31 = .ok (.imul, 1) := by decide +kernel
theorem dL_drafts_32 : decode cL_drafts 32 = .ok (.ishr, 1) := by decide +kernel
theorem dL_drafts_33 : decode cL_drafts 33 = .ok (.bipush 100, 2) := by decide +kernel
theorem dL_drafts_35 : decode cL_drafts 35 = .ok (.invokestatic 102, 3) := by decide +kernel
theorem dL_drafts_38 : decode cL_drafts 38 = .ok (.istore 7, 2) := by decide +kernel
theorem dL_drafts_40 : decode cL_drafts 40 = .ok (.iload_n 3, 1) := by decide +kernel
theorem dL_drafts_41 : decode cL_drafts 41 = .ok (.iconst 3, 1) := by decide +kernel
theorem dL_drafts_42 : decode cL_drafts 42 = .ok (.iload 6, 2) := by decide +kernel
theorem dL_drafts_44 : decode cL_drafts 44 = .ok (.imul, 1) := by decide +kernel
theorem dL_drafts_45 : decode cL_drafts 45 = .ok (.bipush 7, 2) := by decide +kernel
theorem dL_drafts_47 : decode cL_drafts 47 = .ok (.iadd, 1) := by decide +kernel
theorem dL_drafts_48 : decode cL_drafts 48 = .ok (.ishr, 1) := by decide +kernel
theorem dL_drafts_49 : decode cL_drafts 49 = .ok (.bipush 100, 2) := by decide +kernel
theorem dL_drafts_51 : decode cL_drafts 51 = .ok (.invokestatic 102, 3) := by decide +kernel
theorem dL_drafts_54 : decode cL_drafts 54 = .ok (.istore 8, 2) := by decide +kernel
theorem dL_drafts_56 : decode cL_drafts 56 = .ok (.iload_n 2, 1) := by decide +kernel
theorem dL_drafts_57 : decode cL_drafts 57 = .ok (.iconst 3, 1) := by decide +kernel
theorem dL_drafts_58 : decode cL_drafts 58 = .ok (.iload 6, 2) := by decide +kernel
theorem dL_drafts_60 : decode cL_drafts 60 = .ok (.imul, 1) := by decide +kernel
theorem dL_drafts_61 : decode cL_drafts 61 = .ok (.iconst 2, 1) := by decide +kernel
theorem dL_drafts_62 : decode cL_drafts 62 = .ok (.iadd, 1) := by decide +kernel
theorem dL_drafts_63 : decode cL_drafts 63 = .ok (.ishr, 1) := by decide +kernel
theorem dL_drafts_64 : decode cL_drafts 64 = .ok (.bipush 100, 2) := by decide +kernel
theorem dL_drafts_66 : decode cL_drafts 66 = .ok (.invokestatic 102, 3) := by decide +kernel
theorem dL_drafts_69 : decode cL_drafts 69 = .ok (.istore 9, 2) := by decide +kernel
theorem dL_drafts_71 : decode cL_drafts 71 = .ok (.iload_n 2, 1) := by decide +kernel
theorem dL_drafts_72 : decode cL_drafts 72 = .ok (.iconst 3, 1) := by decide +kernel
theorem dL_drafts_73 : decode cL_drafts 73 = .ok (.iload 6, 2) := by decide +kernel
theorem dL_drafts_75 : decode cL_drafts 75 = .ok (.imul, 1) := by decide +kernel
theorem dL_drafts_76 : decode cL_drafts 76 = .ok (.bipush 9, 2) := by decide +kernel
theorem dL_drafts_78 : decode cL_drafts 78 = .ok (.iadd, 1) := by decide +kernel
theorem dL_drafts_79 : decode cL_drafts 79 = .ok (.ishr, 1) := by decide +kernel
theorem dL_drafts_80 : decode cL_drafts 80 = .ok (.bipush 100, 2) := by decide +kernel
theorem dL_drafts_82 : decode cL_drafts 82 = .ok (.invokestatic 102, 3) := by decide +kernel
theorem dL_drafts_85 : decode cL_drafts 85 = .ok (.istore 10, 2) := by decide +kernel
theorem dL_drafts_87 : decode cL_drafts 87 = .ok (.aload_n 0, 1) := by decide +kernel
theorem dL_drafts_88 : decode cL_drafts 88 = .ok (.iload 7, 2) := by decide +kernel
theorem dL_drafts_90 : decode cL_drafts 90 = .ok (.iload 8, 2) := by decide +kernel
theorem dL_drafts_92 : decode cL_drafts 92 = .ok (.iload 9, 2) := by decide +kernel
theorem dL_drafts_94 : decode cL_drafts 94 = .ok (.iload 10, 2) := by decide +kernel
theorem dL_drafts_96 : decode cL_drafts 96 = .ok (.invokestatic 110, 3) := by decide +kernel
theorem dL_drafts_99 : decode cL_drafts 99 = .ok (.istore 11, 2) := by decide +kernel
theorem dL_drafts_101 : decode cL_drafts 101 = .ok (.iload 7, 2) := by decide +kernel
theorem dL_drafts_103 : decode cL_drafts 103 = .ok (.iload 9, 2) := by decide +kernel
theorem dL_drafts_105 : decode cL_drafts 105 = .ok (.if_icmp .ne 14, 3) := by decide +kernel
theorem dL_drafts_108 : decode cL_drafts 108 = .ok (.iload 8, 2) := by decide +kernel
theorem dL_drafts_110 : decode cL_drafts 110 = .ok (.iload 10, 2) := by decide +kernel
theorem dL_drafts_112 : decode cL_drafts 112 = .ok (.if_icmp .ne 7, 3) := by decide +kernel
theorem dL_drafts_115 : decode cL_drafts 115 = .ok (.iconst 1, 1) := by decide +kernel
theorem dL_drafts_116 : decode cL_drafts 116 = .ok (.goto 4, 3) := by decide +kernel
theorem dL_drafts_119 : decode cL_drafts 119 = .ok (.iconst 0, 1) := by decide +kernel
theorem dL_drafts_120 : decode cL_drafts 120 = .ok (.istore 12, 2) := by decide +kernel
theorem dL_drafts_122 : decode cL_drafts 122 = .ok (.iload 11, 2) := by decide +kernel
theorem dL_drafts_124 : decode cL_drafts 124 = .ok (.iload 12, 2) := by decide +kernel
theorem dL_drafts_126 : decode cL_drafts 126 = .ok (.ifCond .eq 8, 3) := by decide +kernel
theorem dL_drafts_129 : decode cL_drafts 129 = .ok (.ldc 18, 2) := by decide +kernel
theorem dL_drafts_131 : decode cL_drafts 131 = .ok (.goto 21, 3) := by decide +kernel
theorem dL_drafts_134 : decode cL_drafts 134 = .ok (.aload_n 1, 1) := by decide +kernel
theorem dL_drafts_135 : decode cL_drafts 135 = .ok (.iconst 2, 1) := by decide +kernel
theorem dL_drafts_136 : decode cL_drafts 136 = .ok (.iaload, 1) := by decide +kernel
theorem dL_drafts_137 : decode cL_drafts 137 = .ok (.bipush 8, 2) := by decide +kernel
theorem dL_drafts_139 : decode cL_drafts 139 = .ok (.if_icmp .ne 8, 3) := by decide +kernel
theorem dL_drafts_142 : decode cL_drafts 142 = .ok (.ldc 21, 2) := by decide +kernel
theorem dL_drafts_144 : decode cL_drafts 144 = .ok (.goto 8, 3) := by decide +kernel
theorem dL_drafts_147 : decode cL_drafts 147 = .ok (.aload_n 1, 1) := by decide +kernel
theorem dL_drafts_148 : decode cL_drafts 148 = .ok (.iconst 2, 1) := by decide +kernel
theorem dL_drafts_149 : decode cL_drafts 149 = .ok (.iaload, 1) := by decide +kernel
theorem dL_drafts_150 : decode cL_drafts 150 = .ok (.iconst 1, 1) := by decide +kernel
theorem dL_drafts_151 : decode cL_drafts 151 = .ok (.iadd, 1) := by decide +kernel
theorem dL_drafts_152 : decode cL_drafts 152 = .ok (.if_icmp .ne 7, 3) := by decide +kernel
theorem dL_drafts_155 : decode cL_drafts 155 = .ok (.iconst 1, 1) := by decide +kernel
theorem dL_drafts_156 : decode cL_drafts 156 = .ok (.goto 4, 3) := by decide +kernel
theorem dL_drafts_159 : decode cL_drafts 159 = .ok (.iconst 0, 1) := by decide +kernel
theorem dL_drafts_160 : decode cL_drafts 160 = .ok (.istore 5, 2) := by decide +kernel
theorem dL_drafts_162 : decode cL_drafts 162 = .ok (.aload_n 1, 1) := by decide +kernel
theorem dL_drafts_163 : decode cL_drafts 163 = .ok (.iconst 2, 1) := by decide +kernel
theorem dL_drafts_164 : decode cL_drafts 164 = .ok (.dup2, 1) := by decide +kernel
theorem dL_drafts_165 : decode cL_drafts 165 = .ok (.iaload, 1) := by decide +kernel
theorem dL_drafts_166 : decode cL_drafts 166 = .ok (.iload 11, 2) := by decide +kernel
theorem dL_drafts_168 : decode cL_drafts 168 = .ok (.ifCond .le 7, 3) := by decide +kernel
theorem dL_drafts_171 : decode cL_drafts 171 = .ok (.iconst 1, 1) := by decide +kernel
theorem dL_drafts_172 : decode cL_drafts 172 = .ok (.goto 4, 3) := by decide +kernel
theorem dL_drafts_175 : decode cL_drafts 175 = .ok (.iconst 0, 1) := by decide +kernel
theorem dL_drafts_176 : decode cL_drafts 176 = .ok (.iadd, 1) := by decide +kernel
theorem dL_drafts_177 : decode cL_drafts 177 = .ok (.iastore, 1) := by decide +kernel
theorem dL_drafts_178 : decode cL_drafts 178 = .ok (.iinc 6 1, 3) := by decide +kernel
theorem dL_drafts_181 : decode cL_drafts 181 = .ok (.goto (-166), 3) := by decide +kernel
theorem dL_drafts_184 : decode cL_drafts 184 = .ok (.iload 5, 2) := by decide +kernel
theorem dL_drafts_186 : decode cL_drafts 186 = .ok (.ireturn, 1) := by decide +kernel
set_option maxRecDepth 20000 in
theorem ggL_signs_L_sign : GoodIn wsL_signs wsL_sign := goodIn_ca (goodIn_r _ [5, 6, 1, 7, 8, 9, 10, 11, 12, 13, 14, 15, 16, 17, 18, 19, 20, 21, 22, 23, 24, 25, 26, 27, 28, 29, 30, 43, 44, 45, 46, 47, 48, 49, 50, 51, 52, 53, 54] (by decide +kernel) (by decide +kernel)) (goodIn_sub (fun _ h => List.mem_cons_of_mem _ (List.mem_append_right _ h)) (by decide +kernel))
set_option maxRecDepth 20000 in
theorem gL_signs_L_sign : GoodIn wsL_signs (va_wsS RL 113 yL_sign wsL_sign) := goodIn_app (goodIn_of _ (by decide +kernel)) ggL_signs_L_sign
set_option maxRecDepth 20000 in
theorem ggL_signs_X8_clear : GoodIn wsL_signs wsX8_clear := goodIn_r _ [34, 14, 15, 35, 36, 37, 20, 38, 39, 43, 44, 45, 46, 47, 48, 49, 50, 51, 52, 53, 54] (by decide +kernel) (by decide +kernel)
set_option maxRecDepth 20000 in
theorem gL_signs_X8_clear : GoodIn wsL_signs (wsV RL 116 RX8 yX8_clear wsX8_clear) := goodIn_app (goodIn_of _ (by decide +kernel)) ggL_signs_X8_clear
set_option maxRecDepth 20000 in
theorem ggL_signs_L_empties : GoodIn wsL_signs wsL_empties := goodIn_r _ [42] (by decide +kernel) (by decide +kernel)
set_option maxRecDepth 20000 in
theorem gL_signs_L_empties : GoodIn wsL_signs (va_wsS RL 119 yL_empties wsL_empties) := goodIn_app (goodIn_of _ (by decide +kernel)) ggL_signs_L_empties
theorem dL_signs_0 : decode cL_signs 0 = .ok (.aload_n 0, 1) := by decide +kernel
theorem dL_signs_1 : decode cL_signs 1 = .ok (.invokestatic 113, 3) := by decide +kernel
theorem dL_signs_4 : decode cL_signs 4 = .ok (.istore_n 3, 1) := by decide +kernel
theorem dL_signs_5 : decode cL_signs 5 = .ok (.aload_n 1, 1) := by decide +kernel
theorem dL_signs_6 : decode cL_signs 6 = .ok (.iconst 2, 1) := by decide +kernel
theorem dL_signs_7 : decode cL_signs 7 = .ok (.iaload, 1) := by decide +kernel
theorem dL_signs_8 : decode cL_signs 8 = .ok (.ifCond .eq 19, 3) := by decide +kernel
theorem dL_signs_11 : decode cL_signs 11 = .ok (.aload_n 1, 1) := by decide +kernel
theorem dL_signs_12 : decode cL_signs 12 = .ok (.iconst 2, 1) := by decide +kernel
theorem dL_signs_13 : decode cL_signs 13 = .ok (.iaload, 1) := by decide +kernel
theorem dL_signs_14 : decode cL_signs 14 = .ok (.bipush 6, 2) := by decide +kernel
theorem dL_signs_16 : decode cL_signs 16 = .ok (.if_icmp .gt 11, 3) := by decide +kernel
theorem dL_signs_19 : decode cL_signs 19 = .ok (.aload_n 1, 1) := by decide +kernel
theorem dL_signs_20 : decode cL_signs 20 = .ok (.iconst 1, 1) := by decide +kernel
theorem dL_signs_21 : decode cL_signs 21 = .ok (.iaload, 1) := by decide +kernel
theorem dL_signs_22 : decode cL_signs 22 = .ok (.bipush 6, 2) := by decide +kernel
theorem dL_signs_24 : decode cL_signs 24 = .ok (.if_icmp .ne 32, 3) := by decide +kernel
theorem dL_signs_27 : decode cL_signs 27 = .ok (.iload_n 3, 1) := by decide +kernel
theorem dL_signs_28 : decode cL_signs 28 = .ok (.ldc 21, 2) := by decide +kernel
theorem dL_signs_30 : decode cL_signs 30 = .ok (.if_icmp .ne 24, 3) := by decide +kernel
theorem dL_signs_33 : decode cL_signs 33 = .ok (.aload_n 0, 1) := by decide +kernel
theorem dL_signs_34 : decode cL_signs 34 = .ok (.invokevirtual 116, 3) := by decide +kernel
theorem dL_signs_37 : decode cL_signs 37 = .ok (.aload_n 1, 1) := by decide +kernel
theorem dL_signs_38 : decode cL_signs 38 = .ok (.iconst 2, 1) := by decide +kernel
theorem dL_signs_39 : decode cL_signs 39 = .ok (.iaload, 1) := by decide +kernel
theorem dL_signs_40 : decode cL_signs 40 = .ok (.if_icmp .ne 14, 3) := by decide +kernel
theorem dL_signs_43 : decode cL_signs 43 = .ok (.aload_n 1, 1) := by decide +kernel
theorem dL_signs_44 : decode cL_signs 44 = .ok (.invokestatic 119, 3) := by decide +kernel
theorem dL_signs_47 : decode cL_signs 47 = .ok (.ifCond .eq 7, 3) := by decide +kernel
theorem dL_signs_50 : decode cL_signs 50 = .ok (.iconst 1, 1) := by decide +kernel
theorem dL_signs_51 : decode cL_signs 51 = .ok (.goto 4, 3) := by decide +kernel
theorem dL_signs_54 : decode cL_signs 54 = .ok (.iconst 0, 1) := by decide +kernel
theorem dL_signs_55 : decode cL_signs 55 = .ok (.ireturn, 1) := by decide +kernel
theorem dL_signs_56 : decode cL_signs 56 = .ok (.aload_n 2, 1) := by decide +kernel
theorem dL_signs_57 : decode cL_signs 57 = .ok (.aload_n 1, 1) := by decide +kernel
theorem dL_signs_58 : decode cL_signs 58 = .ok (.iconst 1, 1) := by decide +kernel
theorem dL_signs_59 : decode cL_signs 59 = .ok (.iaload, 1) := by decide +kernel
theorem dL_signs_60 : decode cL_signs 60 = .ok (.aload_n 1, 1) := by decide +kernel
theorem dL_signs_61 : decode cL_signs 61 = .ok (.iconst 2, 1) := by decide +kernel
theorem dL_signs_62 : decode cL_signs 62 = .ok (.iaload, 1) := by decide +kernel
theorem dL_signs_63 : decode cL_signs 63 = .ok (.iastore, 1) := by decide +kernel
theorem dL_signs_64 : decode cL_signs 64 = .ok (.aload_n 1, 1) := by decide +kernel
theorem dL_signs_65 : decode cL_signs 65 = .ok (.iconst 1, 1) := by decide +kernel
theorem dL_signs_66 : decode cL_signs 66 = .ok (.dup2, 1) := by decide +kernel
theorem dL_signs_67 : decode cL_signs 67 = .ok (.iaload, 1) := by decide +kernel
theorem dL_signs_68 : decode cL_signs 68 = .ok (.iconst 1, 1) := by decide +kernel
theorem dL_signs_69 : decode cL_signs 69 = .ok (.iadd, 1) := by decide +kernel
theorem dL_signs_70 : decode cL_signs 70 = .ok (.iastore, 1) := by decide +kernel
theorem dL_signs_71 : decode cL_signs 71 = .ok (.iload_n 3, 1) := by decide +kernel
theorem dL_signs_72 : decode cL_signs 72 = .ok (.aload_n 1, 1) := by decide +kernel
theorem dL_signs_73 : decode cL_signs 73 = .ok (.iconst 1, 1) := by decide +kernel
theorem dL_signs_74 : decode cL_signs 74 = .ok (.iaload, 1) := by decide +kernel
theorem dL_signs_75 : decode cL_signs 75 = .ok (.iconst 1, 1) := by decide +kernel
theorem dL_signs_76 : decode cL_signs 76 = .ok (.isub, 1) := by decide +kernel
theorem dL_signs_77 : decode cL_signs 77 = .ok (.if_icmp .ne 21, 3) := by decide +kernel
theorem dL_signs_80 : decode cL_signs 80 = .ok (.aload_n 1, 1) := by decide +kernel
