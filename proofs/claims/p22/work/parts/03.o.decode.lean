set_option maxRecDepth 20000 in
theorem gL_hands_L_paper : GoodIn wsL_hands (va_wsS RL 130 yL_paper wsL_paper) := goodIn_app (goodIn_of _ (by decide +kernel)) ggL_hands_L_paper
set_option maxRecDepth 20000 in
theorem ggL_hands_L_look : GoodIn wsL_hands wsL_look := goodIn_ca (goodIn_r _ [153, 11, 2, 154, 155, 156, 18, 157, 20, 21, 158, 159, 36, 37, 38, 39, 40, 160, 161, 162, 47, 163, 135, 189, 190, 191, 192, 174, 175, 176, 177, 178, 179, 180, 181, 182, 183, 164, 165, 166, 167, 168, 169, 170, 171, 172, 173] (by decide +kernel) (by decide +kernel)) (goodIn_sub (fun _ h => List.mem_cons_of_mem _ (List.mem_append_left _ (List.mem_append_left _ (List.mem_append_right _ h)))) (by decide +kernel))
set_option maxRecDepth 20000 in
theorem gL_hands_L_look : GoodIn wsL_hands (va_wsS RL 132 yL_look wsL_look) := goodIn_app (goodIn_of _ (by decide +kernel)) ggL_hands_L_look
theorem dL_hands_0 : decode cL_hands 0 = .ok (.iload 4, 2) := by decide +kernel
theorem dL_hands_2 : decode cL_hands 2 = .ok (.aload_n 1, 1) := by decide +kernel
theorem dL_hands_3 : decode cL_hands 3 = .ok (.iconst 3, 1) := by decide +kernel
theorem dL_hands_4 : decode cL_hands 4 = .ok (.iaload, 1) := by decide +kernel
theorem dL_hands_5 : decode cL_hands 5 = .ok (.invokestatic 102, 3) := by decide +kernel
theorem dL_hands_8 : decode cL_hands 8 = .ok (.istore 6, 2) := by decide +kernel
theorem dL_hands_10 : decode cL_hands 10 = .ok (.bipush 8, 2) := by decide +kernel
theorem dL_hands_12 : decode cL_hands 12 = .ok (.iload 6, 2) := by decide +kernel
theorem dL_hands_14 : decode cL_hands 14 = .ok (.imul, 1) := by decide +kernel
theorem dL_hands_15 : decode cL_hands 15 = .ok (.istore 7, 2) := by decide +kernel
theorem dL_hands_17 : decode cL_hands 17 = .ok (.aload_n 3, 1) := by decide +kernel
theorem dL_hands_18 : decode cL_hands 18 = .ok (.iload 7, 2) := by decide +kernel
theorem dL_hands_20 : decode cL_hands 20 = .ok (.iconst 3, 1) := by decide +kernel
theorem dL_hands_21 : decode cL_hands 21 = .ok (.iadd, 1) := by decide +kernel
theorem dL_hands_22 : decode cL_hands 22 = .ok (.iaload, 1) := by decide +kernel
theorem dL_hands_23 : decode cL_hands 23 = .ok (.istore 8, 2) := by decide +kernel
theorem dL_hands_25 : decode cL_hands 25 = .ok (.aload_n 3, 1) := by decide +kernel
theorem dL_hands_26 : decode cL_hands 26 = .ok (.iload 7, 2) := by decide +kernel
theorem dL_hands_28 : decode cL_hands 28 = .ok (.iconst 5, 1) := by decide +kernel
theorem dL_hands_29 : decode cL_hands 29 = .ok (.iadd, 1) := by decide +kernel
theorem dL_hands_30 : decode cL_hands 30 = .ok (.iaload, 1) := by decide +kernel
theorem dL_hands_31 : decode cL_hands 31 = .ok (.iconst 2, 1) := by decide +kernel
theorem dL_hands_32 : decode cL_hands 32 = .ok (.irem, 1) := by decide +kernel
theorem dL_hands_33 : decode cL_hands 33 = .ok (.ifCond .ne 10, 3) := by decide +kernel
theorem dL_hands_36 : decode cL_hands 36 = .ok (.aload_n 3, 1) := by decide +kernel
theorem dL_hands_37 : decode cL_hands 37 = .ok (.iload 7, 2) := by decide +kernel
theorem dL_hands_39 : decode cL_hands 39 = .ok (.iaload, 1) := by decide +kernel
theorem dL_hands_40 : decode cL_hands 40 = .ok (.goto 9, 3) := by decide +kernel
theorem dL_hands_43 : decode cL_hands 43 = .ok (.aload_n 3, 1) := by decide +kernel
theorem dL_hands_44 : decode cL_hands 44 = .ok (.iload 7, 2) := by decide +kernel
theorem dL_hands_46 : decode cL_hands 46 = .ok (.iconst 1, 1) := by decide +kernel
theorem dL_hands_47 : decode cL_hands 47 = .ok (.iadd, 1) := by decide +kernel
theorem dL_hands_48 : decode cL_hands 48 = .ok (.iaload, 1) := by decide +kernel
theorem dL_hands_49 : decode cL_hands 49 = .ok (.istore 9, 2) := by decide +kernel
theorem dL_hands_51 : decode cL_hands 51 = .ok (.bipush 101, 2) := by decide +kernel
theorem dL_hands_53 : decode cL_hands 53 = .ok (.iload 9, 2) := by decide +kernel
theorem dL_hands_55 : decode cL_hands 55 = .ok (.imul, 1) := by decide +kernel
theorem dL_hands_56 : decode cL_hands 56 = .ok (.bipush 37, 2) := by decide +kernel
theorem dL_hands_58 : decode cL_hands 58 = .ok (.aload_n 1, 1) := by decide +kernel
theorem dL_hands_59 : decode cL_hands 59 = .ok (.iconst 4, 1) := by decide +kernel
theorem dL_hands_60 : decode cL_hands 60 = .ok (.iaload, 1) := by decide +kernel
theorem dL_hands_61 : decode cL_hands 61 = .ok (.iconst 1, 1) := by decide +kernel
theorem dL_hands_62 : decode cL_hands 62 = .ok (.iadd, 1) := by decide +kernel
theorem dL_hands_63 : decode cL_hands 63 = .ok (.imul, 1) := by decide +kernel
theorem dL_hands_64 : decode cL_hands 64 = .ok (.iadd, 1) := by decide +kernel
theorem dL_hands_65 : decode cL_hands 65 = .ok (.sipush 1000, 3) := by decide +kernel
theorem dL_hands_68 : decode cL_hands 68 = .ok (.irem, 1) := by decide +kernel
theorem dL_hands_69 : decode cL_hands 69 = .ok (.istore 10, 2) := by decide +kernel
theorem dL_hands_71 : decode cL_hands 71 = .ok (.iload 4, 2) := by decide +kernel
theorem dL_hands_73 : decode cL_hands 73 = .ok (.iconst 4, 1) := by decide +kernel
theorem dL_hands_74 : decode cL_hands 74 = .ok (.ishr, 1) := by decide +kernel
theorem dL_hands_75 : decode cL_hands 75 = .ok (.iconst 3, 1) := by decide +kernel
theorem dL_hands_76 : decode cL_hands 76 = .ok (.invokestatic 102, 3) := by decide +kernel
theorem dL_hands_79 : decode cL_hands 79 = .ok (.ifCond .ne 7, 3) := by decide +kernel
theorem dL_hands_82 : decode cL_hands 82 = .ok (.iconst 1, 1) := by decide +kernel
theorem dL_hands_83 : decode cL_hands 83 = .ok (.goto 4, 3) := by decide +kernel
theorem dL_hands_86 : decode cL_hands 86 = .ok (.iconst 0, 1) := by decide +kernel
theorem dL_hands_87 : decode cL_hands 87 = .ok (.istore 11, 2) := by decide +kernel
theorem dL_hands_89 : decode cL_hands 89 = .ok (.iload 11, 2) := by decide +kernel
theorem dL_hands_91 : decode cL_hands 91 = .ok (.ifCond .eq 14, 3) := by decide +kernel
theorem dL_hands_94 : decode cL_hands 94 = .ok (.iload 5, 2) := by decide +kernel
theorem dL_hands_96 : decode cL_hands 96 = .ok (.sipush 1000, 3) := by decide +kernel
theorem dL_hands_99 : decode cL_hands 99 = .ok (.invokestatic 102, 3) := by decide +kernel
theorem dL_hands_102 : decode cL_hands 102 = .ok (.goto 5, 3) := by decide +kernel
theorem dL_hands_105 : decode cL_hands 105 = .ok (.iload 10, 2) := by decide +kernel
theorem dL_hands_107 : decode cL_hands 107 = .ok (.istore 12, 2) := by decide +kernel
theorem dL_hands_109 : decode cL_hands 109 = .ok (.aload_n 0, 1) := by decide +kernel
theorem dL_hands_110 : decode cL_hands 110 = .ok (.iload 6, 2) := by decide +kernel
theorem dL_hands_112 : decode cL_hands 112 = .ok (.iload 12, 2) := by decide +kernel
theorem dL_hands_114 : decode cL_hands 114 = .ok (.invokestatic 128, 3) := by decide +kernel
theorem dL_hands_117 : decode cL_hands 117 = .ok (.istore 13, 2) := by decide +kernel
theorem dL_hands_119 : decode cL_hands 119 = .ok (.aload_n 3, 1) := by decide +kernel
theorem dL_hands_120 : decode cL_hands 120 = .ok (.iload 7, 2) := by decide +kernel
theorem dL_hands_122 : decode cL_hands 122 = .ok (.iconst 5, 1) := by decide +kernel
theorem dL_hands_123 : decode cL_hands 123 = .ok (.iadd, 1) := by decide +kernel
theorem dL_hands_124 : decode cL_hands 124 = .ok (.iaload, 1) := by decide +kernel
theorem dL_hands_125 : decode cL_hands 125 = .ok (.iconst 2, 1) := by decide +kernel
theorem dL_hands_126 : decode cL_hands 126 = .ok (.aload_n 3, 1) := by decide +kernel
theorem dL_hands_127 : decode cL_hands 127 = .ok (.iload 7, 2) := by decide +kernel
theorem dL_hands_129 : decode cL_hands 129 = .ok (.iconst 4, 1) := by decide +kernel
theorem dL_hands_130 : decode cL_hands 130 = .ok (.iadd, 1) := by decide +kernel
theorem dL_hands_131 : decode cL_hands 131 = .ok (.iaload, 1) := by decide +kernel
theorem dL_hands_132 : decode cL_hands 132 = .ok (.imul, 1) := by decide +kernel
theorem dL_hands_133 : decode cL_hands 133 = .ok (.if_icmp .eq 18, 3) := by decide +kernel
theorem dL_hands_136 : decode cL_hands 136 = .ok (.aload_n 1, 1) := by decide +kernel
theorem dL_hands_137 : decode cL_hands 137 = .ok (.iconst 2, 1) := by decide +kernel
theorem dL_hands_138 : decode cL_hands 138 = .ok (.iaload, 1) := by decide +kernel
theorem dL_hands_139 : decode cL_hands 139 = .ok (.ifCond .eq 12, 3) := by decide +kernel
theorem dL_hands_142 : decode cL_hands 142 = .ok (.aload_n 2, 1) := by decide +kernel
theorem dL_hands_143 : decode cL_hands 143 = .ok (.iconst 3, 1) := by decide +kernel
theorem dL_hands_144 : decode cL_hands 144 = .ok (.iload 8, 2) := by decide +kernel
theorem dL_hands_146 : decode cL_hands 146 = .ok (.imul, 1) := by decide +kernel
theorem dL_hands_147 : decode cL_hands 147 = .ok (.iaload, 1) := by decide +kernel
theorem dL_hands_148 : decode cL_hands 148 = .ok (.ifCond .ne 16, 3) := by decide +kernel
theorem dL_hands_151 : decode cL_hands 151 = .ok (.iload 13, 2) := by decide +kernel
theorem dL_hands_153 : decode cL_hands 153 = .ok (.ldc 21, 2) := by decide +kernel
theorem dL_hands_155 : decode cL_hands 155 = .ok (.if_icmp .ne 7, 3) := by decide +kernel
theorem dL_hands_158 : decode cL_hands 158 = .ok (.iconst 1, 1) := by decide +kernel
theorem dL_hands_159 : decode cL_hands 159 = .ok (.goto 4, 3) := by decide +kernel
theorem dL_hands_162 : decode cL_hands 162 = .ok (.iconst 0, 1) := by decide +kernel
theorem dL_hands_163 : decode cL_hands 163 = .ok (.ireturn, 1) := by decide +kernel
theorem dL_hands_164 : decode cL_hands 164 = .ok (.aload_n 2, 1) := by decide +kernel
theorem dL_hands_165 : decode cL_hands 165 = .ok (.iconst 3, 1) := by decide +kernel
theorem dL_hands_166 : decode cL_hands 166 = .ok (.iload 8, 2) := by decide +kernel
theorem dL_hands_168 : decode cL_hands 168 = .ok (.imul, 1) := by decide +kernel
theorem dL_hands_169 : decode cL_hands 169 = .ok (.dup2, 1) := by decide +kernel
theorem dL_hands_170 : decode cL_hands 170 = .ok (.iaload, 1) := by decide +kernel
theorem dL_hands_171 : decode cL_hands 171 = .ok (.iconst 1, 1) := by decide +kernel
theorem dL_hands_172 : decode cL_hands 172 = .ok (.isub, 1) := by decide +kernel
theorem dL_hands_173 : decode cL_hands 173 = .ok (.iastore, 1) := by decide +kernel
theorem dL_hands_174 : decode cL_hands 174 = .ok (.aload_n 1, 1) := by decide +kernel
theorem dL_hands_175 : decode cL_hands 175 = .ok (.iconst 4, 1) := by decide +kernel
theorem dL_hands_176 : decode cL_hands 176 = .ok (.dup2, 1) := by decide +kernel
theorem dL_hands_177 : decode cL_hands 177 = .ok (.iaload, 1) := by decide +kernel
theorem dL_hands_178 : decode cL_hands 178 = .ok (.iconst 1, 1) := by decide +kernel
theorem dL_hands_179 : decode cL_hands 179 = .ok (.iadd, 1) := by decide +kernel
theorem dL_hands_180 : decode cL_hands 180 = .ok (.iastore, 1) := by decide +kernel
theorem dL_hands_181 : decode cL_hands 181 = .ok (.aload_n 3, 1) := by decide +kernel
theorem dL_hands_182 : decode cL_hands 182 = .ok (.iload 7, 2) := by decide +kernel
theorem dL_hands_184 : decode cL_hands 184 = .ok (.iconst 5, 1) := by decide +kernel
theorem dL_hands_185 : decode cL_hands 185 = .ok (.iadd, 1) := by decide +kernel
theorem dL_hands_186 : decode cL_hands 186 = .ok (.dup2, 1) := by decide +kernel
theorem dL_hands_187 : decode cL_hands 187 = .ok (.iaload, 1) := by decide +kernel
theorem dL_hands_188 : decode cL_hands 188 = .ok (.iconst 1, 1) := by decide +kernel
theorem dL_hands_189 : decode cL_hands 189 = .ok (.iadd, 1) := by decide +kernel
theorem dL_hands_190 : decode cL_hands 190 = .ok (.iastore, 1) := by decide +kernel
theorem dL_hands_191 : decode cL_hands 191 = .ok (.aload_n 1, 1) := by decide +kernel
theorem dL_hands_192 : decode cL_hands 192 = .ok (.iconst 2, 1) := by decide +kernel
theorem dL_hands_193 : decode cL_hands 193 = .ok (.iconst 0, 1) := by decide +kernel
theorem dL_hands_194 : decode cL_hands 194 = .ok (.iastore, 1) := by decide +kernel
theorem dL_hands_195 : decode cL_hands 195 = .ok (.iload 4, 2) := by decide +kernel
theorem dL_hands_197 : decode cL_hands 197 = .ok (.bipush 6, 2) := by decide +kernel
theorem dL_hands_199 : decode cL_hands 199 = .ok (.ishr, 1) := by decide +kernel
theorem dL_hands_200 : decode cL_hands 200 = .ok (.iconst 2, 1) := by decide +kernel
theorem dL_hands_201 : decode cL_hands 201 = .ok (.invokestatic 102, 3) := by decide +kernel
theorem dL_hands_204 : decode cL_hands 204 = .ok (.ifCond .ne 7, 3) := by decide +kernel
theorem dL_hands_207 : decode cL_hands 207 = .ok (.iconst 1, 1) := by decide +kernel
theorem dL_hands_208 : decode cL_hands 208 = .ok (.goto 4, 3) := by decide +kernel
theorem dL_hands_211 : decode cL_hands 211 = .ok (.iconst 0, 1) := by decide +kernel
theorem dL_hands_212 : decode cL_hands 212 = .ok (.istore 14, 2) := by decide +kernel
theorem dL_hands_214 : decode cL_hands 214 = .ok (.aload_n 3, 1) := by decide +kernel
theorem dL_hands_215 : decode cL_hands 215 = .ok (.iload 7, 2) := by decide +kernel
theorem dL_hands_217 : decode cL_hands 217 = .ok (.iconst 5, 1) := by decide +kernel
theorem dL_hands_218 : decode cL_hands 218 = .ok (.iadd, 1) := by decide +kernel
theorem dL_hands_219 : decode cL_hands 219 = .ok (.iaload, 1) := by decide +kernel
theorem dL_hands_220 : decode cL_hands 220 = .ok (.iconst 1, 1) := by decide +kernel
theorem dL_hands_221 : decode cL_hands 221 = .ok (.isub, 1) := by decide +kernel
theorem dL_hands_222 : decode cL_hands 222 = .ok (.istore 15, 2) := by decide +kernel
theorem dL_hands_224 : decode cL_hands 224 = .ok (.iload 13, 2) := by decide +kernel
theorem dL_hands_226 : decode cL_hands 226 = .ok (.aload_n 1, 1) := by decide +kernel
theorem dL_hands_227 : decode cL_hands 227 = .ok (.iconst 4, 1) := by decide +kernel
theorem dL_hands_228 : decode cL_hands 228 = .ok (.iaload, 1) := by decide +kernel
theorem dL_hands_229 : decode cL_hands 229 = .ok (.if_icmp .ne 86, 3) := by decide +kernel
theorem dL_hands_232 : decode cL_hands 232 = .ok (.aload_n 0, 1) := by decide +kernel
theorem dL_hands_233 : decode cL_hands 233 = .ok (.invokevirtual 116, 3) := by decide +kernel
theorem dL_hands_236 : decode cL_hands 236 = .ok (.ifCond .ne 79, 3) := by decide +kernel
theorem dL_hands_239 : decode cL_hands 239 = .ok (.aload_n 0, 1) := by decide +kernel
theorem dL_hands_240 : decode cL_hands 240 = .ok (.iload 8, 2) := by decide +kernel
theorem dL_hands_242 : decode cL_hands 242 = .ok (.iconst 0, 1) := by decide +kernel
theorem dL_hands_243 : decode cL_hands 243 = .ok (.invokestatic 130, 3) := by decide +kernel
theorem dL_hands_246 : decode cL_hands 246 = .ok (.aload_n 2, 1) := by decide +kernel
theorem dL_hands_247 : decode cL_hands 247 = .ok (.iconst 3, 1) := by decide +kernel
theorem dL_hands_248 : decode cL_hands 248 = .ok (.iload 8, 2) := by decide +kernel
theorem dL_hands_250 : decode cL_hands 250 = .ok (.imul, 1) := by decide +kernel
theorem dL_hands_251 : decode cL_hands 251 = .ok (.iaload, 1) := by decide +kernel
theorem dL_hands_252 : decode cL_hands 252 = .ok (.if_icmp .ne 63, 3) := by decide +kernel
theorem dL_hands_255 : decode cL_hands 255 = .ok (.iload 14, 2) := by decide +kernel
theorem dL_hands_257 : decode cL_hands 257 = .ok (.ifCond .eq 41, 3) := by decide +kernel
theorem dL_hands_260 : decode cL_hands 260 = .ok (.aload_n 0, 1) := by decide +kernel
theorem dL_hands_261 : decode cL_hands 261 = .ok (.iload 6, 2) := by decide +kernel
theorem dL_hands_263 : decode cL_hands 263 = .ok (.iload 15, 2) := by decide +kernel
theorem dL_hands_265 : decode cL_hands 265 = .ok (.iconst 2, 1) := by decide +kernel
theorem dL_hands_266 : decode cL_hands 266 = .ok (.idiv, 1) := by decide +kernel
theorem dL_hands_267 : decode cL_hands 267 = .ok (.iload 15, 2) := by decide +kernel
theorem dL_hands_269 : decode cL_hands 269 = .ok (.iconst 2, 1) := by decide +kernel
theorem dL_hands_270 : decode cL_hands 270 = .ok (.irem, 1) := by decide +kernel
theorem dL_hands_271 : decode cL_hands 271 = .ok (.iconst 1, 1) := by decide +kernel
theorem dL_hands_272 : decode cL_hands 272 = .ok (.if_icmp .ne 7, 3) := by decide +kernel
theorem dL_hands_275 : decode cL_hands 275 = .ok (.iconst 1, 1) := by decide +kernel
theorem dL_hands_276 : decode cL_hands 276 = .ok (.goto 4, 3) := by decide +kernel
theorem dL_hands_279 : decode cL_hands 279 = .ok (.iconst 0, 1) := by decide +kernel
theorem dL_hands_280 : decode cL_hands 280 = .ok (.invokestatic 132, 3) := by decide +kernel
theorem dL_hands_283 : decode cL_hands 283 = .ok (.iload 12, 2) := by decide +kernel
theorem dL_hands_285 : decode cL_hands 285 = .ok (.iload 10, 2) := by decide +kernel
theorem dL_hands_287 : decode cL_hands 287 = .ok (.if_icmp .ne 7, 3) := by decide +kernel
theorem dL_hands_290 : decode cL_hands 290 = .ok (.iconst 0, 1) := by decide +kernel
theorem dL_hands_291 : decode cL_hands 291 = .ok (.goto 4, 3) := by decide +kernel
theorem dL_hands_294 : decode cL_hands 294 = .ok (.iconst 1, 1) := by decide +kernel
theorem dL_hands_295 : decode cL_hands 295 = .ok (.if_icmp .ne 20, 3) := by decide +kernel
theorem dL_hands_298 : decode cL_hands 298 = .ok (.aload_n 0, 1) := by decide +kernel
theorem dL_hands_299 : decode cL_hands 299 = .ok (.iload 6, 2) := by decide +kernel
theorem dL_hands_301 : decode cL_hands 301 = .ok (.iconst 5, 1) := by decide +kernel
theorem dL_hands_302 : decode cL_hands 302 = .ok (.iconst 0, 1) := by decide +kernel
theorem dL_hands_303 : decode cL_hands 303 = .ok (.invokestatic 132, 3) := by decide +kernel
theorem dL_hands_306 : decode cL_hands 306 = .ok (.ldc 32, 2) := by decide +kernel
theorem dL_hands_308 : decode cL_hands 308 = .ok (.if_icmp .ne 7, 3) := by decide +kernel
theorem dL_hands_311 : decode cL_hands 311 = .ok (.iconst 1, 1) := by decide +kernel
theorem dL_hands_312 : decode cL_hands 312 = .ok (.goto 4, 3) := by decide +kernel
theorem dL_hands_315 : decode cL_hands 315 = .ok (.iconst 0, 1) := by decide +kernel
theorem dL_hands_316 : decode cL_hands 316 = .ok (.ireturn, 1) := by decide +kernel
set_option maxRecDepth 20000 in
theorem ggL_days_L_low : GoodIn wsL_days wsL_low := goodIn_r _ [4, 5] (by decide +kernel) (by decide +kernel)
set_option maxRecDepth 20000 in
theorem gL_days_L_low : GoodIn wsL_days (va_wsS RL 102 yL_low wsL_low) := goodIn_app (goodIn_of _ (by decide +kernel)) ggL_days_L_low
set_option maxRecDepth 20000 in
theorem ggL_days_L_pass : GoodIn wsL_days wsL_pass := goodIn_ca (goodIn_ca (goodIn_r _ [8, 9, 10, 11, 12, 13, 14, 15, 16, 17, 18, 19, 20, 21, 22, 23, 24, 25, 26, 27, 28, 29, 30, 31, 32, 33, 34, 35, 36, 37, 38, 39, 40, 58, 59, 60, 61, 62, 63, 64, 65, 66, 67, 68, 69, 70] (by decide +kernel) (by decide +kernel)) (goodIn_sub (fun _ h => List.mem_cons_of_mem _ (List.mem_append_left _ (List.mem_append_left _ (List.mem_append_right _ h)))) (by decide +kernel))) (goodIn_sub (fun _ h => List.mem_cons_of_mem _ (List.mem_append_left _ (List.mem_append_right _ h))) (by decide +kernel))
set_option maxRecDepth 20000 in
theorem gL_days_L_pass : GoodIn wsL_days (va_wsS RL 135 yL_pass wsL_pass) := goodIn_app (goodIn_of _ (by decide +kernel)) ggL_days_L_pass
set_option maxRecDepth 20000 in
theorem ggL_days_L_paper : GoodIn wsL_days wsL_paper := goodIn_ca (goodIn_ca (goodIn_r _ [43, 44, 9, 45, 11, 46, 47, 48, 16, 49, 50, 51, 18, 19, 52, 53, 54, 55, 56, 57, 23, 68, 69, 70, 58, 59, 60, 61, 62, 63, 64, 65, 66, 67] (by decide +kernel) (by decide +kernel)) (goodIn_sub (fun _ h => List.mem_cons_of_mem _ (List.mem_append_right _ h)) (by decide +kernel))) (goodIn_sub (fun _ h => List.mem_cons_of_mem _ (List.mem_append_left _ (List.mem_append_left _ (List.mem_append_right _ h)))) (by decide +kernel))
set_option maxRecDepth 20000 in
theorem gL_days_L_paper : GoodIn wsL_days (va_wsS RL 130 yL_paper wsL_paper) := goodIn_app (goodIn_of _ (by decide +kernel)) ggL_days_L_paper
theorem dL_days_0 : decode cL_days 0 = .ok (.iconst 1, 1) := by decide +kernel
theorem dL_days_1 : decode cL_days 1 = .ok (.iload_n 3, 1) := by decide +kernel
theorem dL_days_2 : decode cL_days 2 = .ok (.bipush 12, 2) := by decide +kernel
theorem dL_days_4 : decode cL_days 4 = .ok (.invokestatic 102, 3) := by decide +kernel
theorem dL_days_7 : decode cL_days 7 = .ok (.iadd, 1) := by decide +kernel
theorem dL_days_8 : decode cL_days 8 = .ok (.istore 4, 2) := by decide +kernel
theorem dL_days_10 : decode cL_days 10 = .ok (.aload_n 1, 1) := by decide +kernel
theorem dL_days_11 : decode cL_days 11 = .ok (.iconst 0, 1) := by decide +kernel
theorem dL_days_12 : decode cL_days 12 = .ok (.dup2, 1) := by decide +kernel
theorem dL_days_13 : decode cL_days 13 = .ok (.iaload, 1) := by decide +kernel
