theorem dL_isDuel_189 : decode cL_isDuel 189 = .ok (.istore 10, 2) := by decide +kernel
theorem dL_isDuel_191 : decode cL_isDuel 191 = .ok (.iconst 0, 1) := by decide +kernel
theorem dL_isDuel_192 : decode cL_isDuel 192 = .ok (.istore 11, 2) := by decide +kernel
theorem dL_isDuel_194 : decode cL_isDuel 194 = .ok (.iload 11, 2) := by decide +kernel
theorem dL_isDuel_196 : decode cL_isDuel 196 = .ok (.bipush 11, 2) := by decide +kernel
theorem dL_isDuel_198 : decode cL_isDuel 198 = .ok (.if_icmp .ge 87, 3) := by decide +kernel
theorem dL_isDuel_201 : decode cL_isDuel 201 = .ok (.iload 10, 2) := by decide +kernel
theorem dL_isDuel_203 : decode cL_isDuel 203 = .ok (.ifCond .eq 82, 3) := by decide +kernel
theorem dL_isDuel_206 : decode cL_isDuel 206 = .ok (.aload_n 0, 1) := by decide +kernel
theorem dL_isDuel_207 : decode cL_isDuel 207 = .ok (.iload_n 3, 1) := by decide +kernel
theorem dL_isDuel_208 : decode cL_isDuel 208 = .ok (.iload 11, 2) := by decide +kernel
theorem dL_isDuel_210 : decode cL_isDuel 210 = .ok (.iconst 2, 1) := by decide +kernel
theorem dL_isDuel_211 : decode cL_isDuel 211 = .ok (.idiv, 1) := by decide +kernel
theorem dL_isDuel_212 : decode cL_isDuel 212 = .ok (.iload 11, 2) := by decide +kernel
theorem dL_isDuel_214 : decode cL_isDuel 214 = .ok (.iconst 2, 1) := by decide +kernel
theorem dL_isDuel_215 : decode cL_isDuel 215 = .ok (.irem, 1) := by decide +kernel
theorem dL_isDuel_216 : decode cL_isDuel 216 = .ok (.iconst 1, 1) := by decide +kernel
theorem dL_isDuel_217 : decode cL_isDuel 217 = .ok (.if_icmp .ne 7, 3) := by decide +kernel
theorem dL_isDuel_220 : decode cL_isDuel 220 = .ok (.iconst 1, 1) := by decide +kernel
theorem dL_isDuel_221 : decode cL_isDuel 221 = .ok (.goto 4, 3) := by decide +kernel
theorem dL_isDuel_224 : decode cL_isDuel 224 = .ok (.iconst 0, 1) := by decide +kernel
theorem dL_isDuel_225 : decode cL_isDuel 225 = .ok (.invokestatic 92, 3) := by decide +kernel
theorem dL_isDuel_228 : decode cL_isDuel 228 = .ok (.fstore 12, 2) := by decide +kernel
theorem dL_isDuel_230 : decode cL_isDuel 230 = .ok (.iload 11, 2) := by decide +kernel
theorem dL_isDuel_232 : decode cL_isDuel 232 = .ok (.aload_n 2, 1) := by decide +kernel
theorem dL_isDuel_233 : decode cL_isDuel 233 = .ok (.iload 4, 2) := by decide +kernel
theorem dL_isDuel_235 : decode cL_isDuel 235 = .ok (.iconst 5, 1) := by decide +kernel
theorem dL_isDuel_236 : decode cL_isDuel 236 = .ok (.iadd, 1) := by decide +kernel
theorem dL_isDuel_237 : decode cL_isDuel 237 = .ok (.iaload, 1) := by decide +kernel
theorem dL_isDuel_238 : decode cL_isDuel 238 = .ok (.if_icmp .ge 26, 3) := by decide +kernel
theorem dL_isDuel_241 : decode cL_isDuel 241 = .ok (.fload 12, 2) := by decide +kernel
theorem dL_isDuel_243 : decode cL_isDuel 243 = .ok (.fconst 0, 1) := by decide +kernel
theorem dL_isDuel_244 : decode cL_isDuel 244 = .ok (.fcmp .l, 1) := by decide +kernel
theorem dL_isDuel_245 : decode cL_isDuel 245 = .ok (.ifCond .lt 15, 3) := by decide +kernel
theorem dL_isDuel_248 : decode cL_isDuel 248 = .ok (.fload 12, 2) := by decide +kernel
theorem dL_isDuel_250 : decode cL_isDuel 250 = .ok (.ldc 95, 2) := by decide +kernel
theorem dL_isDuel_252 : decode cL_isDuel 252 = .ok (.fcmp .g, 1) := by decide +kernel
theorem dL_isDuel_253 : decode cL_isDuel 253 = .ok (.ifCond .gt 7, 3) := by decide +kernel
theorem dL_isDuel_256 : decode cL_isDuel 256 = .ok (.iconst 1, 1) := by decide +kernel
theorem dL_isDuel_257 : decode cL_isDuel 257 = .ok (.goto 20, 3) := by decide +kernel
theorem dL_isDuel_260 : decode cL_isDuel 260 = .ok (.iconst 0, 1) := by decide +kernel
theorem dL_isDuel_261 : decode cL_isDuel 261 = .ok (.goto 16, 3) := by decide +kernel
theorem dL_isDuel_264 : decode cL_isDuel 264 = .ok (.fload 12, 2) := by decide +kernel
theorem dL_isDuel_266 : decode cL_isDuel 266 = .ok (.ldc 68, 2) := by decide +kernel
theorem dL_isDuel_268 : decode cL_isDuel 268 = .ok (.fcmp .l, 1) := by decide +kernel
theorem dL_isDuel_269 : decode cL_isDuel 269 = .ok (.ifCond .ne 7, 3) := by decide +kernel
theorem dL_isDuel_272 : decode cL_isDuel 272 = .ok (.iconst 1, 1) := by decide +kernel
theorem dL_isDuel_273 : decode cL_isDuel 273 = .ok (.goto 4, 3) := by decide +kernel
theorem dL_isDuel_276 : decode cL_isDuel 276 = .ok (.iconst 0, 1) := by decide +kernel
theorem dL_isDuel_277 : decode cL_isDuel 277 = .ok (.istore 10, 2) := by decide +kernel
theorem dL_isDuel_279 : decode cL_isDuel 279 = .ok (.iinc 11 1, 3) := by decide +kernel
theorem dL_isDuel_282 : decode cL_isDuel 282 = .ok (.goto (-88), 3) := by decide +kernel
theorem dL_isDuel_285 : decode cL_isDuel 285 = .ok (.iload 10, 2) := by decide +kernel
theorem dL_isDuel_287 : decode cL_isDuel 287 = .ok (.ireturn, 1) := by decide +kernel
set_option maxRecDepth 20000 in
theorem ggL_areWon_L_won : GoodIn wsL_areWon wsL_won := goodIn_ca (goodIn_r _ [4, 5, 6, 7, 8, 9, 10, 11, 12, 13, 14, 15, 16, 17, 18, 19, 20, 21, 22, 23, 24, 25, 26, 27, 28, 29, 30, 31, 32, 33, 34, 35, 36, 37, 38, 39, 40, 41, 42, 43, 44, 45, 46, 47, 48, 49, 50, 51, 52, 53, 54, 55, 56, 57, 58, 59, 60, 61, 62, 63, 64, 65, 66, 67, 68, 69, 70, 71, 72, 73, 74, 75, 76, 77, 78, 79, 80, 81, 82, 83, 84, 85, 106, 107, 108, 109, 110, 111, 112, 113, 114, 115, 116, 117, 118, 119, 120, 121, 122, 123, 124, 125, 126, 127, 128, 129, 130, 131, 132, 133, 134, 135, 136] (by decide +kernel) (by decide +kernel)) (goodIn_sub (fun _ h => List.mem_cons_of_mem _ (List.mem_append_left _ (List.mem_append_right _ h))) (by decide +kernel))
set_option maxRecDepth 20000 in
theorem gL_areWon_L_won : GoodIn wsL_areWon (va_wsS RL 96 yL_won wsL_won) := goodIn_app (goodIn_of _ (by decide +kernel)) ggL_areWon_L_won
set_option maxRecDepth 20000 in
theorem ggL_areWon_L_of : GoodIn wsL_areWon wsL_of := goodIn_ca (goodIn_ca (goodIn_r _ [88, 5, 89, 6, 90, 91, 92, 93, 10, 94, 12, 13, 95, 96, 97, 49, 50, 98, 99, 100, 101, 14, 102, 103, 104, 105, 34, 35, 36, 37, 38, 39, 40, 41, 30, 42, 43, 44, 45, 46, 47, 48, 51, 52, 53, 54, 55, 56, 57, 58, 59, 60, 61, 62, 63, 64, 65, 66, 67, 68, 69, 70, 71, 72, 73, 74, 75, 76, 77, 78, 79, 80, 81, 82, 83, 84, 85, 21, 22, 23, 24, 25, 26, 27, 28, 29, 31, 32, 33, 116, 117, 118, 119, 120, 121, 122, 123, 124, 125, 106, 107, 108, 109, 110, 111, 112, 113, 114, 115, 126, 127, 128, 129, 130, 131, 132, 133, 134, 135, 136] (by decide +kernel) (by decide +kernel)) (goodIn_sub (fun _ h => List.mem_cons_of_mem _ (List.mem_append_left _ (List.mem_append_right _ h))) (by decide +kernel))) (goodIn_sub (fun _ h => List.mem_cons_of_mem _ (List.mem_append_right _ h)) (by decide +kernel))
set_option maxRecDepth 20000 in
theorem gL_areWon_L_of : GoodIn wsL_areWon (va_wsS RL 87 yL_of wsL_of) := goodIn_app (goodIn_of _ (by decide +kernel)) ggL_areWon_L_of
theorem dL_areWon_0 : decode cL_areWon 0 = .ok (.iconst 0, 1) := by decide +kernel
theorem dL_areWon_1 : decode cL_areWon 1 = .ok (.istore_n 2, 1) := by decide +kernel
theorem dL_areWon_2 : decode cL_areWon 2 = .ok (.iconst 0, 1) := by decide +kernel
theorem dL_areWon_3 : decode cL_areWon 3 = .ok (.istore_n 3, 1) := by decide +kernel
theorem dL_areWon_4 : decode cL_areWon 4 = .ok (.iload_n 3, 1) := by decide +kernel
theorem dL_areWon_5 : decode cL_areWon 5 = .ok (.bipush 8, 2) := by decide +kernel
theorem dL_areWon_7 : decode cL_areWon 7 = .ok (.if_icmp .ge 17, 3) := by decide +kernel
theorem dL_areWon_10 : decode cL_areWon 10 = .ok (.iload_n 2, 1) := by decide +kernel
theorem dL_areWon_11 : decode cL_areWon 11 = .ok (.aload_n 0, 1) := by decide +kernel
theorem dL_areWon_12 : decode cL_areWon 12 = .ok (.iload_n 3, 1) := by decide +kernel
theorem dL_areWon_13 : decode cL_areWon 13 = .ok (.invokestatic 96, 3) := by decide +kernel
theorem dL_areWon_16 : decode cL_areWon 16 = .ok (.iadd, 1) := by decide +kernel
theorem dL_areWon_17 : decode cL_areWon 17 = .ok (.istore_n 2, 1) := by decide +kernel
theorem dL_areWon_18 : decode cL_areWon 18 = .ok (.iinc 3 1, 3) := by decide +kernel
theorem dL_areWon_21 : decode cL_areWon 21 = .ok (.goto (-17), 3) := by decide +kernel
theorem dL_areWon_24 : decode cL_areWon 24 = .ok (.iconst 0, 1) := by decide +kernel
theorem dL_areWon_25 : decode cL_areWon 25 = .ok (.istore_n 3, 1) := by decide +kernel
theorem dL_areWon_26 : decode cL_areWon 26 = .ok (.iload_n 3, 1) := by decide +kernel
theorem dL_areWon_27 : decode cL_areWon 27 = .ok (.aload_n 1, 1) := by decide +kernel
theorem dL_areWon_28 : decode cL_areWon 28 = .ok (.iconst 3, 1) := by decide +kernel
theorem dL_areWon_29 : decode cL_areWon 29 = .ok (.iaload, 1) := by decide +kernel
theorem dL_areWon_30 : decode cL_areWon 30 = .ok (.if_icmp .ge 26, 3) := by decide +kernel
theorem dL_areWon_33 : decode cL_areWon 33 = .ok (.iload_n 2, 1) := by decide +kernel
theorem dL_areWon_34 : decode cL_areWon 34 = .ok (.aload_n 0, 1) := by decide +kernel
theorem dL_areWon_35 : decode cL_areWon 35 = .ok (.iload_n 3, 1) := by decide +kernel
theorem dL_areWon_36 : decode cL_areWon 36 = .ok (.iconst 3, 1) := by decide +kernel
theorem dL_areWon_37 : decode cL_areWon 37 = .ok (.invokestatic 87, 3) := by decide +kernel
theorem dL_areWon_40 : decode cL_areWon 40 = .ok (.ifCond .ge 7, 3) := by decide +kernel
theorem dL_areWon_43 : decode cL_areWon 43 = .ok (.iconst 0, 1) := by decide +kernel
theorem dL_areWon_44 : decode cL_areWon 44 = .ok (.goto 4, 3) := by decide +kernel
theorem dL_areWon_47 : decode cL_areWon 47 = .ok (.iconst 1, 1) := by decide +kernel
theorem dL_areWon_48 : decode cL_areWon 48 = .ok (.isub, 1) := by decide +kernel
theorem dL_areWon_49 : decode cL_areWon 49 = .ok (.istore_n 2, 1) := by decide +kernel
theorem dL_areWon_50 : decode cL_areWon 50 = .ok (.iinc 3 1, 3) := by decide +kernel
theorem dL_areWon_53 : decode cL_areWon 53 = .ok (.goto (-27), 3) := by decide +kernel
theorem dL_areWon_56 : decode cL_areWon 56 = .ok (.iload_n 2, 1) := by decide +kernel
theorem dL_areWon_57 : decode cL_areWon 57 = .ok (.ifCond .ne 7, 3) := by decide +kernel
theorem dL_areWon_60 : decode cL_areWon 60 = .ok (.iconst 1, 1) := by decide +kernel
theorem dL_areWon_61 : decode cL_areWon 61 = .ok (.goto 4, 3) := by decide +kernel
theorem dL_areWon_64 : decode cL_areWon 64 = .ok (.iconst 0, 1) := by decide +kernel
theorem dL_areWon_65 : decode cL_areWon 65 = .ok (.ireturn, 1) := by decide +kernel
set_option maxRecDepth 20000 in
theorem ggL_isDraft_L_mark : GoodIn wsL_isDraft wsL_mark := goodIn_ca (goodIn_r _ [9, 10, 1, 11, 12, 13, 14, 15, 16, 17, 18, 19, 20, 21, 22, 23, 24, 25, 26, 27, 28, 29, 30, 31, 32, 33, 34, 35, 36, 37, 38, 39, 40, 41, 42, 43, 44, 45, 46, 47, 48, 49, 50, 51, 52, 53, 54, 55, 56, 57, 58, 59, 60, 61, 62, 63, 64, 65, 66, 67, 68, 69, 70, 71, 72, 73, 74, 75, 76, 77, 78, 79, 80, 81, 82, 83, 84, 85, 86, 87, 88, 89, 90, 91, 92, 93, 94, 95, 96, 97, 98, 99, 118, 119, 120, 121, 122, 123, 124, 125, 126, 127, 128, 129, 130, 131, 132, 133, 134, 135, 136, 137, 138, 139, 140, 141, 142, 143] (by decide +kernel) (by decide +kernel)) (goodIn_sub (fun _ h => List.mem_cons_of_mem _ (List.mem_append_left _ (List.mem_append_right _ h))) (by decide +kernel))
set_option maxRecDepth 20000 in
theorem gL_isDraft_L_mark : GoodIn wsL_isDraft (va_wsS RL 99 yL_mark wsL_mark) := goodIn_app (goodIn_of _ (by decide +kernel)) ggL_isDraft_L_mark
set_option maxRecDepth 20000 in
theorem ggL_isDraft_L_low : GoodIn wsL_isDraft wsL_low := goodIn_r _ [102, 103] (by decide +kernel) (by decide +kernel)
set_option maxRecDepth 20000 in
theorem gL_isDraft_L_low : GoodIn wsL_isDraft (va_wsS RL 102 yL_low wsL_low) := goodIn_app (goodIn_of _ (by decide +kernel)) ggL_isDraft_L_low
set_option maxRecDepth 20000 in
theorem ggL_isDraft_L_part : GoodIn wsL_isDraft wsL_part := goodIn_ca (goodIn_ca (goodIn_r _ [106, 10, 107, 1, 4, 108, 109, 110, 14, 111, 16, 17, 112, 113, 21, 114, 115, 116, 22, 23, 24, 25, 26, 117, 44, 45, 46, 47, 48, 49, 50, 51, 52, 53, 54, 55, 56, 57, 58, 59, 60, 61, 62, 63, 64, 65, 66, 67, 68, 69, 70, 71, 72, 73, 74, 75, 76, 77, 78, 79, 80, 81, 82, 83, 84, 36, 37, 85, 86, 87, 122, 123, 124, 125, 126, 127, 128, 129, 130, 131, 134, 135, 136, 132, 133, 137, 138, 139, 140] (by decide +kernel) (by decide +kernel)) (goodIn_sub (fun _ h => List.mem_cons_of_mem _ (List.mem_append_left _ (List.mem_append_right _ h))) (by decide +kernel))) (goodIn_sub (fun _ h => List.mem_cons_of_mem _ (List.mem_append_right _ h)) (by decide +kernel))
set_option maxRecDepth 20000 in
theorem gL_isDraft_L_part : GoodIn wsL_isDraft (va_wsS RL 105 yL_part wsL_part) := goodIn_app (goodIn_of _ (by decide +kernel)) ggL_isDraft_L_part
theorem dL_isDraft_0 : decode cL_isDraft 0 = .ok (.aload_n 1, 1) := by decide +kernel
theorem dL_isDraft_1 : decode cL_isDraft 1 = .ok (.iconst 1, 1) := by decide +kernel
theorem dL_isDraft_2 : decode cL_isDraft 2 = .ok (.iaload, 1) := by decide +kernel
theorem dL_isDraft_3 : decode cL_isDraft 3 = .ok (.ifCond .ne 21, 3) := by decide +kernel
theorem dL_isDraft_6 : decode cL_isDraft 6 = .ok (.aload_n 0, 1) := by decide +kernel
theorem dL_isDraft_7 : decode cL_isDraft 7 = .ok (.iconst 0, 1) := by decide +kernel
theorem dL_isDraft_8 : decode cL_isDraft 8 = .ok (.iconst 0, 1) := by decide +kernel
theorem dL_isDraft_9 : decode cL_isDraft 9 = .ok (.invokestatic 99, 3) := by decide +kernel
theorem dL_isDraft_12 : decode cL_isDraft 12 = .ok (.ldc 68, 2) := by decide +kernel
theorem dL_isDraft_14 : decode cL_isDraft 14 = .ok (.fcmp .l, 1) := by decide +kernel
theorem dL_isDraft_15 : decode cL_isDraft 15 = .ok (.ifCond .ne 7, 3) := by decide +kernel
theorem dL_isDraft_18 : decode cL_isDraft 18 = .ok (.iconst 1, 1) := by decide +kernel
theorem dL_isDraft_19 : decode cL_isDraft 19 = .ok (.goto 4, 3) := by decide +kernel
theorem dL_isDraft_22 : decode cL_isDraft 22 = .ok (.iconst 0, 1) := by decide +kernel
theorem dL_isDraft_23 : decode cL_isDraft 23 = .ok (.ireturn, 1) := by decide +kernel
theorem dL_isDraft_24 : decode cL_isDraft 24 = .ok (.iload_n 3, 1) := by decide +kernel
theorem dL_isDraft_25 : decode cL_isDraft 25 = .ok (.aload_n 1, 1) := by decide +kernel
theorem dL_isDraft_26 : decode cL_isDraft 26 = .ok (.iconst 1, 1) := by decide +kernel
theorem dL_isDraft_27 : decode cL_isDraft 27 = .ok (.iaload, 1) := by decide +kernel
theorem dL_isDraft_28 : decode cL_isDraft 28 = .ok (.invokestatic 102, 3) := by decide +kernel
theorem dL_isDraft_31 : decode cL_isDraft 31 = .ok (.istore 4, 2) := by decide +kernel
theorem dL_isDraft_33 : decode cL_isDraft 33 = .ok (.aload_n 0, 1) := by decide +kernel
theorem dL_isDraft_34 : decode cL_isDraft 34 = .ok (.iload 4, 2) := by decide +kernel
theorem dL_isDraft_36 : decode cL_isDraft 36 = .ok (.aload_n 1, 1) := by decide +kernel
theorem dL_isDraft_37 : decode cL_isDraft 37 = .ok (.iconst 2, 1) := by decide +kernel
theorem dL_isDraft_38 : decode cL_isDraft 38 = .ok (.iaload, 1) := by decide +kernel
theorem dL_isDraft_39 : decode cL_isDraft 39 = .ok (.iconst 0, 1) := by decide +kernel
theorem dL_isDraft_40 : decode cL_isDraft 40 = .ok (.invokestatic 105, 3) := by decide +kernel
theorem dL_isDraft_43 : decode cL_isDraft 43 = .ok (.ldc 68, 2) := by decide +kernel
theorem dL_isDraft_45 : decode cL_isDraft 45 = .ok (.fcmp .l, 1) := by decide +kernel
theorem dL_isDraft_46 : decode cL_isDraft 46 = .ok (.ifCond .ne 39, 3) := by decide +kernel
theorem dL_isDraft_49 : decode cL_isDraft 49 = .ok (.aload_n 0, 1) := by decide +kernel
theorem dL_isDraft_50 : decode cL_isDraft 50 = .ok (.iload 4, 2) := by decide +kernel
theorem dL_isDraft_52 : decode cL_isDraft 52 = .ok (.aload_n 2, 1) := by decide +kernel
theorem dL_isDraft_53 : decode cL_isDraft 53 = .ok (.iload 4, 2) := by decide +kernel
theorem dL_isDraft_55 : decode cL_isDraft 55 = .ok (.iaload, 1) := by decide +kernel
theorem dL_isDraft_56 : decode cL_isDraft 56 = .ok (.iconst 2, 1) := by decide +kernel
theorem dL_isDraft_57 : decode cL_isDraft 57 = .ok (.invokestatic 105, 3) := by decide +kernel
theorem dL_isDraft_60 : decode cL_isDraft 60 = .ok (.ldc 68, 2) := by decide +kernel
theorem dL_isDraft_62 : decode cL_isDraft 62 = .ok (.fcmp .l, 1) := by decide +kernel
theorem dL_isDraft_63 : decode cL_isDraft 63 = .ok (.ifCond .ne 22, 3) := by decide +kernel
theorem dL_isDraft_66 : decode cL_isDraft 66 = .ok (.aload_n 0, 1) := by decide +kernel
theorem dL_isDraft_67 : decode cL_isDraft 67 = .ok (.aload_n 1, 1) := by decide +kernel
theorem dL_isDraft_68 : decode cL_isDraft 68 = .ok (.iconst 1, 1) := by decide +kernel
theorem dL_isDraft_69 : decode cL_isDraft 69 = .ok (.iaload, 1) := by decide +kernel
theorem dL_isDraft_70 : decode cL_isDraft 70 = .ok (.iconst 0, 1) := by decide +kernel
theorem dL_isDraft_71 : decode cL_isDraft 71 = .ok (.iconst 0, 1) := by decide +kernel
theorem dL_isDraft_72 : decode cL_isDraft 72 = .ok (.invokestatic 105, 3) := by decide +kernel
theorem dL_isDraft_75 : decode cL_isDraft 75 = .ok (.ldc 68, 2) := by decide +kernel
theorem dL_isDraft_77 : decode cL_isDraft 77 = .ok (.fcmp .l, 1) := by decide +kernel
theorem dL_isDraft_78 : decode cL_isDraft 78 = .ok (.ifCond .ne 7, 3) := by decide +kernel
theorem dL_isDraft_81 : decode cL_isDraft 81 = .ok (.iconst 1, 1) := by decide +kernel
theorem dL_isDraft_82 : decode cL_isDraft 82 = .ok (.goto 4, 3) := by decide +kernel
theorem dL_isDraft_85 : decode cL_isDraft 85 = .ok (.iconst 0, 1) := by decide +kernel
theorem dL_isDraft_86 : decode cL_isDraft 86 = .ok (.istore 5, 2) := by decide +kernel
theorem dL_isDraft_88 : decode cL_isDraft 88 = .ok (.iconst 0, 1) := by decide +kernel
theorem dL_isDraft_89 : decode cL_isDraft 89 = .ok (.istore 6, 2) := by decide +kernel
theorem dL_isDraft_91 : decode cL_isDraft 91 = .ok (.iload 6, 2) := by decide +kernel
theorem dL_isDraft_93 : decode cL_isDraft 93 = .ok (.aload_n 1, 1) := by decide +kernel
theorem dL_isDraft_94 : decode cL_isDraft 94 = .ok (.iconst 2, 1) := by decide +kernel
theorem dL_isDraft_95 : decode cL_isDraft 95 = .ok (.iaload, 1) := by decide +kernel
theorem dL_isDraft_96 : decode cL_isDraft 96 = .ok (.if_icmp .ge 126, 3) := by decide +kernel
theorem dL_isDraft_99 : decode cL_isDraft 99 = .ok (.iload 6, 2) := by decide +kernel
theorem dL_isDraft_101 : decode cL_isDraft 101 = .ok (.aload_n 2, 1) := by decide +kernel
theorem dL_isDraft_102 : decode cL_isDraft 102 = .ok (.iload 4, 2) := by decide +kernel
theorem dL_isDraft_104 : decode cL_isDraft 104 = .ok (.iaload, 1) := by decide +kernel
theorem dL_isDraft_105 : decode cL_isDraft 105 = .ok (.if_icmp .ge 117, 3) := by decide +kernel
theorem dL_isDraft_108 : decode cL_isDraft 108 = .ok (.iload 5, 2) := by decide +kernel
theorem dL_isDraft_110 : decode cL_isDraft 110 = .ok (.ifCond .eq 112, 3) := by decide +kernel
theorem dL_isDraft_113 : decode cL_isDraft 113 = .ok (.aload_n 0, 1) := by decide +kernel
theorem dL_isDraft_114 : decode cL_isDraft 114 = .ok (.iload 4, 2) := by decide +kernel
theorem dL_isDraft_116 : decode cL_isDraft 116 = .ok (.iload 6, 2) := by decide +kernel
theorem dL_isDraft_118 : decode cL_isDraft 118 = .ok (.iconst 0, 1) := by decide +kernel
theorem dL_isDraft_119 : decode cL_isDraft 119 = .ok (.invokestatic 105, 3) := by decide +kernel
theorem dL_isDraft_122 : decode cL_isDraft 122 = .ok (.fstore 7, 2) := by decide +kernel
theorem dL_isDraft_124 : decode cL_isDraft 124 = .ok (.aload_n 0, 1) := by decide +kernel
theorem dL_isDraft_125 : decode cL_isDraft 125 = .ok (.iload 4, 2) := by decide +kernel
theorem dL_isDraft_127 : decode cL_isDraft 127 = .ok (.iload 6, 2) := by decide +kernel
theorem dL_isDraft_129 : decode cL_isDraft 129 = .ok (.iconst 1, 1) := by decide +kernel
theorem dL_isDraft_130 : decode cL_isDraft 130 = .ok (.invokestatic 105, 3) := by decide +kernel
theorem dL_isDraft_133 : decode cL_isDraft 133 = .ok (.fstore 8, 2) := by decide +kernel
theorem dL_isDraft_135 : decode cL_isDraft 135 = .ok (.fload 7, 2) := by decide +kernel
theorem dL_isDraft_137 : decode cL_isDraft 137 = .ok (.fconst 0, 1) := by decide +kernel
theorem dL_isDraft_138 : decode cL_isDraft 138 = .ok (.fcmp .l, 1) := by decide +kernel
theorem dL_isDraft_139 : decode cL_isDraft 139 = .ok (.ifCond .lt 74, 3) := by decide +kernel
theorem dL_isDraft_142 : decode cL_isDraft 142 = .ok (.fload 7, 2) := by decide +kernel
theorem dL_isDraft_144 : decode cL_isDraft 144 = .ok (.ldc 108, 2) := by decide +kernel
theorem dL_isDraft_146 : decode cL_isDraft 146 = .ok (.fcmp .g, 1) := by decide +kernel
theorem dL_isDraft_147 : decode cL_isDraft 147 = .ok (.ifCond .gt 66, 3) := by decide +kernel
theorem dL_isDraft_150 : decode cL_isDraft 150 = .ok (.fload 8, 2) := by decide +kernel
theorem dL_isDraft_152 : decode cL_isDraft 152 = .ok (.fconst 0, 1) := by decide +kernel
theorem dL_isDraft_153 : decode cL_isDraft 153 = .ok (.fcmp .l, 1) := by decide +kernel
theorem dL_isDraft_154 : decode cL_isDraft 154 = .ok (.ifCond .lt 59, 3) := by decide +kernel
theorem dL_isDraft_157 : decode cL_isDraft 157 = .ok (.fload 8, 2) := by decide +kernel
theorem dL_isDraft_159 : decode cL_isDraft 159 = .ok (.ldc 109, 2) := by decide +kernel
theorem dL_isDraft_161 : decode cL_isDraft 161 = .ok (.fcmp .g, 1) := by decide +kernel
theorem dL_isDraft_162 : decode cL_isDraft 162 = .ok (.ifCond .gt 51, 3) := by decide +kernel
theorem dL_isDraft_165 : decode cL_isDraft 165 = .ok (.aload_n 0, 1) := by decide +kernel
theorem dL_isDraft_166 : decode cL_isDraft 166 = .ok (.iload 4, 2) := by decide +kernel
theorem dL_isDraft_168 : decode cL_isDraft 168 = .ok (.iload 6, 2) := by decide +kernel
theorem dL_isDraft_170 : decode cL_isDraft 170 = .ok (.iconst 2, 1) := by decide +kernel
theorem dL_isDraft_171 : decode cL_isDraft 171 = .ok (.invokestatic 105, 3) := by decide +kernel
theorem dL_isDraft_174 : decode cL_isDraft 174 = .ok (.aload_n 1, 1) := by decide +kernel
theorem dL_isDraft_175 : decode cL_isDraft 175 = .ok (.iconst 2, 1) := by decide +kernel
theorem dL_isDraft_176 : decode cL_isDraft 176 = .ok (.iaload, 1) := by decide +kernel
theorem dL_isDraft_177 : decode cL_isDraft 177 = .ok (.aload_n 2, 1) := by decide +kernel
theorem dL_isDraft_178 : decode cL_isDraft 178 = .ok (.iload 4, 2) := by decide +kernel
theorem dL_isDraft_180 : decode cL_isDraft 180 = .ok (.iaload, 1) := by decide +kernel
theorem dL_isDraft_181 : decode cL_isDraft 181 = .ok (.if_icmp .ne 8, 3) := by decide +kernel
theorem dL_isDraft_184 : decode cL_isDraft 184 = .ok (.ldc 108, 2) := by decide +kernel
theorem dL_isDraft_186 : decode cL_isDraft 186 = .ok (.goto 4, 3) := by decide +kernel
theorem dL_isDraft_189 : decode cL_isDraft 189 = .ok (.fconst 0, 1) := by decide +kernel
theorem dL_isDraft_190 : decode cL_isDraft 190 = .ok (.fcmp .l, 1) := by decide +kernel
